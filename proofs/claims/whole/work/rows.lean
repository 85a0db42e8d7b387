section
-- ===== PART A: goes FIRST, ahead of the names: the tables' words, and 'selects' of the private methods out of them =====
/-- a private method of a class that the tables say can be made, by its rows of tables_1 -/
def lw_okq (q : MethodName × Nat) : Prop := (q.1.cls ≠ "java/lang/invoke/MethodHandle" ∧ q.1.cls ≠ "java/lang/invoke/VarHandle") ∧ Cond.instantiable q.1.cls q.2 ∈ tables_1 ∧ Cond.privateMethod q.1 ∈ tables_1 ∧ Cond.instanceMethod q.1 ∈ tables_1
theorem lw_p0 : lw_okq (⟨"IronCampaign$Table", "has", "(II)Z"⟩, 4) := ⟨⟨by decide +kernel, by decide +kernel⟩, List.mem_of_getElem? (i := 26) (by decide +kernel), List.mem_of_getElem? (i := 241) (by decide +kernel), List.mem_of_getElem? (i := 242) (by decide +kernel)⟩
theorem lw_p1 : lw_okq (⟨"IronCampaign", "followRules", "()V"⟩, 15) := ⟨⟨by decide +kernel, by decide +kernel⟩, List.mem_of_getElem? (i := 12) (by decide +kernel), List.mem_of_getElem? (i := 354) (by decide +kernel), List.mem_of_getElem? (i := 355) (by decide +kernel)⟩
theorem lw_p2 : lw_okq (⟨"IronCampaign", "isCalledFor", "(I)Z"⟩, 15) := ⟨⟨by decide +kernel, by decide +kernel⟩, List.mem_of_getElem? (i := 12) (by decide +kernel), List.mem_of_getElem? (i := 358) (by decide +kernel), List.mem_of_getElem? (i := 359) (by decide +kernel)⟩
theorem lw_p3 : lw_okq (⟨"IronCampaign", "castPig", "()I"⟩, 15) := ⟨⟨by decide +kernel, by decide +kernel⟩, List.mem_of_getElem? (i := 12) (by decide +kernel), List.mem_of_getElem? (i := 366) (by decide +kernel), List.mem_of_getElem? (i := 367) (by decide +kernel)⟩
theorem lw_p4 : lw_okq (⟨"IronCampaign$Furnace", "bringDown", "(LIronCampaign$Table;ILIronCampaign$Hearth;[I)V"⟩, 10) := ⟨⟨by decide +kernel, by decide +kernel⟩, List.mem_of_getElem? (i := 98) (by decide +kernel), List.mem_of_getElem? (i := 388) (by decide +kernel), List.mem_of_getElem? (i := 389) (by decide +kernel)⟩
theorem lw_p5 : lw_okq (⟨"IronCampaign$Furnace", "sortOf", "(II)I"⟩, 10) := ⟨⟨by decide +kernel, by decide +kernel⟩, List.mem_of_getElem? (i := 98) (by decide +kernel), List.mem_of_getElem? (i := 394) (by decide +kernel), List.mem_of_getElem? (i := 395) (by decide +kernel)⟩
theorem lw_p6 : lw_okq (⟨"IronCampaign$Sale", "readPigs", "(LIronCampaign$Table;)V"⟩, 9) := ⟨⟨by decide +kernel, by decide +kernel⟩, List.mem_of_getElem? (i := 162) (by decide +kernel), List.mem_of_getElem? (i := 458) (by decide +kernel), List.mem_of_getElem? (i := 459) (by decide +kernel)⟩
theorem lw_p7 : lw_okq (⟨"IronCampaign$Sale", "readHopes", "(LIronCampaign$Table;)V"⟩, 9) := ⟨⟨by decide +kernel, by decide +kernel⟩, List.mem_of_getElem? (i := 162) (by decide +kernel), List.mem_of_getElem? (i := 463) (by decide +kernel), List.mem_of_getElem? (i := 464) (by decide +kernel)⟩
theorem lw_p8 : lw_okq (⟨"IronCampaign$Sale", "canTake", "(LIronCampaign$Table;II)Z"⟩, 9) := ⟨⟨by decide +kernel, by decide +kernel⟩, List.mem_of_getElem? (i := 162) (by decide +kernel), List.mem_of_getElem? (i := 467) (by decide +kernel), List.mem_of_getElem? (i := 468) (by decide +kernel)⟩
theorem lw_p9 : lw_okq (⟨"IronCampaignModel", "oneTick", "()V"⟩, 57) := ⟨⟨by decide +kernel, by decide +kernel⟩, List.mem_of_getElem? (i := 526) (by decide +kernel), List.mem_of_getElem? (i := 745) (by decide +kernel), List.mem_of_getElem? (i := 746) (by decide +kernel)⟩
theorem lw_p10 : lw_okq (⟨"IronCampaignModel", "act", "(I)V"⟩, 57) := ⟨⟨by decide +kernel, by decide +kernel⟩, List.mem_of_getElem? (i := 526) (by decide +kernel), List.mem_of_getElem? (i := 749) (by decide +kernel), List.mem_of_getElem? (i := 750) (by decide +kernel)⟩
theorem lw_p11 : lw_okq (⟨"IronCampaignModel", "comesDown", "()V"⟩, 57) := ⟨⟨by decide +kernel, by decide +kernel⟩, List.mem_of_getElem? (i := 526) (by decide +kernel), List.mem_of_getElem? (i := 757) (by decide +kernel), List.mem_of_getElem? (i := 758) (by decide +kernel)⟩
theorem lw_p12 : lw_okq (⟨"IronCampaignModel", "see", "(II)V"⟩, 57) := ⟨⟨by decide +kernel, by decide +kernel⟩, List.mem_of_getElem? (i := 526) (by decide +kernel), List.mem_of_getElem? (i := 761) (by decide +kernel), List.mem_of_getElem? (i := 762) (by decide +kernel)⟩
theorem lw_p13 : lw_okq (⟨"IronCampaignModel", "findSale", "()I"⟩, 57) := ⟨⟨by decide +kernel, by decide +kernel⟩, List.mem_of_getElem? (i := 526) (by decide +kernel), List.mem_of_getElem? (i := 798) (by decide +kernel), List.mem_of_getElem? (i := 799) (by decide +kernel)⟩
theorem lw_p14 : lw_okq (⟨"IronCampaignModel", "payOf", "(I)I"⟩, 57) := ⟨⟨by decide +kernel, by decide +kernel⟩, List.mem_of_getElem? (i := 526) (by decide +kernel), List.mem_of_getElem? (i := 802) (by decide +kernel), List.mem_of_getElem? (i := 803) (by decide +kernel)⟩
theorem lw_p15 : lw_okq (⟨"IronCampaignModel", "digit", "(II)I"⟩, 57) := ⟨⟨by decide +kernel, by decide +kernel⟩, List.mem_of_getElem? (i := 526) (by decide +kernel), List.mem_of_getElem? (i := 806) (by decide +kernel), List.mem_of_getElem? (i := 807) (by decide +kernel)⟩
def lw_privs_1 : List (MethodName × Nat) := [(⟨"IronCampaign$Table", "has", "(II)Z"⟩, 4), (⟨"IronCampaign", "followRules", "()V"⟩, 15), (⟨"IronCampaign", "isCalledFor", "(I)Z"⟩, 15), (⟨"IronCampaign", "castPig", "()I"⟩, 15), (⟨"IronCampaign$Furnace", "bringDown", "(LIronCampaign$Table;ILIronCampaign$Hearth;[I)V"⟩, 10), (⟨"IronCampaign$Furnace", "sortOf", "(II)I"⟩, 10), (⟨"IronCampaign$Sale", "readPigs", "(LIronCampaign$Table;)V"⟩, 9), (⟨"IronCampaign$Sale", "readHopes", "(LIronCampaign$Table;)V"⟩, 9), (⟨"IronCampaign$Sale", "canTake", "(LIronCampaign$Table;II)Z"⟩, 9), (⟨"IronCampaignModel", "oneTick", "()V"⟩, 57), (⟨"IronCampaignModel", "act", "(I)V"⟩, 57), (⟨"IronCampaignModel", "comesDown", "()V"⟩, 57), (⟨"IronCampaignModel", "see", "(II)V"⟩, 57), (⟨"IronCampaignModel", "findSale", "()I"⟩, 57), (⟨"IronCampaignModel", "payOf", "(I)I"⟩, 57), (⟨"IronCampaignModel", "digit", "(II)I"⟩, 57)]
theorem lw_r1 : ∀ q ∈ lw_privs_1, lw_okq q := List.forall_mem_cons.mpr ⟨lw_p0, List.forall_mem_cons.mpr ⟨lw_p1, List.forall_mem_cons.mpr ⟨lw_p2, List.forall_mem_cons.mpr ⟨lw_p3, List.forall_mem_cons.mpr ⟨lw_p4, List.forall_mem_cons.mpr ⟨lw_p5, List.forall_mem_cons.mpr ⟨lw_p6, List.forall_mem_cons.mpr ⟨lw_p7, List.forall_mem_cons.mpr ⟨lw_p8, List.forall_mem_cons.mpr ⟨lw_p9, List.forall_mem_cons.mpr ⟨lw_p10, List.forall_mem_cons.mpr ⟨lw_p11, List.forall_mem_cons.mpr ⟨lw_p12, List.forall_mem_cons.mpr ⟨lw_p13, List.forall_mem_cons.mpr ⟨lw_p14, List.forall_mem_cons.mpr ⟨lw_p15, fun _ h => absurd h List.not_mem_nil⟩⟩⟩⟩⟩⟩⟩⟩⟩⟩⟩⟩⟩⟩⟩⟩
theorem lw_p16 : lw_okq (⟨"IronCampaignModel", "ironOf", "(IIIIII)I"⟩, 57) := ⟨⟨by decide +kernel, by decide +kernel⟩, List.mem_of_getElem? (i := 526) (by decide +kernel), List.mem_of_getElem? (i := 826) (by decide +kernel), List.mem_of_getElem? (i := 827) (by decide +kernel)⟩
def lw_privs_2 : List (MethodName × Nat) := [(⟨"IronCampaignModel", "ironOf", "(IIIIII)I"⟩, 57)]
theorem lw_r2 : ∀ q ∈ lw_privs_2, lw_okq q := List.forall_mem_cons.mpr ⟨lw_p16, fun _ h => absurd h List.not_mem_nil⟩
def lw_privs : List (MethodName × Nat) := lw_privs_1 ++ (lw_privs_2)
def lw_tbl : List Cond := k2_sels lw_privs ++ tables_1
theorem lw_privs_ok : ∀ q ∈ lw_privs, lw_okq q := by
  show ∀ q ∈ lw_privs_1 ++ (lw_privs_2), lw_okq q
  exact List.forall_mem_append.mpr ⟨lw_r1, lw_r2⟩
end
section
abbrev Sg : Type := Nat → Nat → Int32
abbrev Shp : Type := (Nat × List (Option Nat)) ⊕ (Nat × Nat)
def sgu (σ : Sg) (q k : Nat) (v : Int32) : Sg := fun q' => if q' = q then upd (σ q) k v else σ q'
def cv (a : Nat → Nat) (v : Value) : Value := match v with
  | .ref q => .ref (a q)
  | w => w
def cvp (a : Nat → Nat) (x : Nat × Value) : Nat × Value := (x.1, cv a x.2)
def fv (a : Nat → Nat) (f : Nat → Int32) (k : Nat) (x : Option Nat) : Value := match x with
  | none => .int (f k)
  | some 0 => .null
  | some (r + 1) => .ref (a r)
def flds (a : Nat → Nat) (f : Nat → Int32) : Nat → List (Option Nat) → List Value
  | _, [] => []
  | k, x :: xs => fv a f k x :: flds a f (k + 1) xs
def cel (ac : Nat → ClassId) (a : Nat → Nat) (f : Nat → Int32) (s : Shp) : va_E := match s with
  | .inl o => .inr (o.1, flds a f 0 o.2)
  | .inr z => .inl (ac z.1, z.2, .inl f)
def Wd (ac : Nat → ClassId) (a : Nat → Nat) (σ : Sg) : Nat → List Shp → va_W
  | _, [] => []
  | q, s :: ss => (a q, cel ac a (σ q) s) :: Wd ac a σ (q + 1) ss
theorem cv_cat (a : Nat → Nat) (v : Value) : (cv a v).category = v.category := by cases v <;> rfl
theorem flds_len (a : Nat → Nat) (f : Nat → Int32) : ∀ (fl : List (Option Nat)) (i : Nat), (flds a f i fl).length = fl.length
  | [], _ => rfl
  | x :: xs, i => by simp only [flds, List.length_cons, flds_len a f xs (i + 1)]
theorem flds_get (a : Nat → Nat) (f : Nat → Int32) : ∀ (fl : List (Option Nat)) (i k : Nat) (x : Option Nat), fl[k]? = some x → (flds a f i fl)[k]? = some (fv a f (i + k) x)
  | [], i, k, x, h => by simp at h
  | y :: ys, i, 0, x, h => by
    simp only [List.getElem?_cons_zero, Option.some.injEq] at h
    subst h
    rfl
  | y :: ys, i, k + 1, x, h => by
    rw [List.getElem?_cons_succ] at h
    have := flds_get a f ys (i + 1) k x h
    rw [show i + (k + 1) = i + 1 + k by omega]
    show (fv a f i y :: flds a f (i + 1) ys)[k + 1]? = _
    rw [List.getElem?_cons_succ]
    exact this
theorem flds_congr (a : Nat → Nat) {f f' : Nat → Int32} : ∀ (fl : List (Option Nat)) (i : Nat), (∀ j, i ≤ j → f j = f' j) → flds a f i fl = flds a f' i fl
  | [], _, _ => rfl
  | x :: xs, i, h => by
    show fv a f i x :: flds a f (i + 1) xs = fv a f' i x :: flds a f' (i + 1) xs
    rw [flds_congr a xs (i + 1) (fun j hj => h j (by omega))]
    cases x with
    | none => show Value.int (f i) :: _ = Value.int (f' i) :: _; rw [h i (Nat.le_refl i)]
    | some r => cases r <;> rfl
theorem flds_congA {a a' : Nat → Nat} (f : Nat → Int32) : ∀ (fl : List (Option Nat)) (i : Nat), (∀ r, some (r + 1) ∈ fl → a r = a' r) → flds a f i fl = flds a' f i fl
  | [], _, _ => rfl
  | x :: xs, i, h => by
    show fv a f i x :: flds a f (i + 1) xs = fv a' f i x :: flds a' f (i + 1) xs
    rw [flds_congA f xs (i + 1) (fun r hr => h r (List.mem_cons_of_mem _ hr))]
    cases x with
    | none => rfl
    | some r => cases r with
      | zero => rfl
      | succ r => show Value.ref (a r) :: _ = Value.ref (a' r) :: _; rw [h r List.mem_cons_self]
theorem flds_seti (a : Nat → Nat) (v : Int32) : ∀ (fl : List (Option Nat)) (f : Nat → Int32) (i k : Nat), fl[k]? = some none → (flds a f i fl).set k (.int v) = flds a (upd f (i + k) v) i fl
  | [], f, i, k, h => by simp at h
  | x :: xs, f, i, 0, h => by
    simp only [List.getElem?_cons_zero, Option.some.injEq] at h
    subst h
    show Value.int v :: flds a f (i + 1) xs = Value.int (upd f (i + 0) v i) :: flds a (upd f (i + 0) v) (i + 1) xs
    rw [flds_congr (f := f) (f' := upd f (i + 0) v) a xs (i + 1) (fun j hj => by simp only [upd]; rw [if_neg (by omega)])]
    simp [upd]
  | x :: xs, f, i, k + 1, h => by
    rw [List.getElem?_cons_succ] at h
    have ih := flds_seti a v xs f (i + 1) k h
    show fv a f i x :: (flds a f (i + 1) xs).set k (.int v) = fv a (upd f (i + (k + 1)) v) i x :: flds a (upd f (i + (k + 1)) v) (i + 1) xs
    rw [ih, show i + 1 + k = i + (k + 1) by omega]
    cases x with
    | none => show Value.int (f i) :: _ = Value.int (upd f (i + (k + 1)) v i) :: _; rw [show upd f (i + (k + 1)) v i = f i from by simp only [upd]; rw [if_neg (by omega)]]
    | some r => cases r <;> rfl
theorem flds_setr (a : Nat → Nat) (f : Nat → Int32) (r : Nat) : ∀ (fl : List (Option Nat)) (i k : Nat), (flds a f i fl).set k (.ref (a r)) = flds a f i (fl.set k (some (r + 1)))
  | [], i, k => rfl
  | x :: xs, i, 0 => rfl
  | x :: xs, i, k + 1 => by
    show fv a f i x :: (flds a f (i + 1) xs).set k (.ref (a r)) = fv a f i x :: flds a f (i + 1) (xs.set k (some (r + 1)))
    rw [flds_setr a f r xs (i + 1) k]
theorem Wd_len (ac : Nat → ClassId) (a : Nat → Nat) (σ : Sg) : ∀ (S : List Shp) (i : Nat), (Wd ac a σ i S).length = S.length
  | [], _ => rfl
  | x :: xs, i => by simp only [Wd, List.length_cons, Wd_len ac a σ xs (i + 1)]
theorem Wd_get (ac : Nat → ClassId) (a : Nat → Nat) (σ : Sg) : ∀ (S : List Shp) (i q : Nat) (s : Shp), S[q]? = some s → (Wd ac a σ i S)[q]? = some (a (i + q), cel ac a (σ (i + q)) s)
  | [], i, q, s, h => by simp at h
  | y :: ys, i, 0, s, h => by
    simp only [List.getElem?_cons_zero, Option.some.injEq] at h
    subst h
    rfl
  | y :: ys, i, q + 1, s, h => by
    rw [List.getElem?_cons_succ] at h
    have := Wd_get ac a σ ys (i + 1) q s h
    rw [show i + (q + 1) = i + 1 + q by omega]
    show ((a i, cel ac a (σ i) y) :: Wd ac a σ (i + 1) ys)[q + 1]? = _
    rw [List.getElem?_cons_succ]
    exact this
theorem Wd_get0 {ac : Nat → ClassId} {a : Nat → Nat} {σ : Sg} {S : List Shp} {q : Nat} {s : Shp} (h : S[q]? = some s) : (Wd ac a σ 0 S)[q]? = some (a q, cel ac a (σ q) s) := by
  have := Wd_get ac a σ S 0 q s h
  rwa [Nat.zero_add] at this
theorem Wd_congr (ac : Nat → ClassId) (a : Nat → Nat) {σ σ' : Sg} : ∀ (S : List Shp) (i : Nat), (∀ j, i ≤ j → σ j = σ' j) → Wd ac a σ i S = Wd ac a σ' i S
  | [], _, _ => rfl
  | x :: xs, i, h => by
    show (a i, cel ac a (σ i) x) :: Wd ac a σ (i + 1) xs = (a i, cel ac a (σ' i) x) :: Wd ac a σ' (i + 1) xs
    rw [Wd_congr ac a xs (i + 1) (fun j hj => h j (by omega)), h i (Nat.le_refl i)]
theorem Wd_set (ac : Nat → ClassId) (a : Nat → Nat) (f : Nat → Int32) (s' : Shp) : ∀ (S : List Shp) (σ : Sg) (i q : Nat), (Wd ac a σ i S).set q (a (i + q), cel ac a f s') = Wd ac a (fun j => if j = i + q then f else σ j) i (S.set q s')
  | [], σ, i, q => rfl
  | x :: xs, σ, i, 0 => by
    show (a (i + 0), cel ac a f s') :: Wd ac a σ (i + 1) xs = (a i, cel ac a (if i = i + 0 then f else σ i) s') :: Wd ac a (fun j => if j = i + 0 then f else σ j) (i + 1) xs
    rw [if_pos (by omega), Wd_congr (σ := σ) (σ' := fun j => if j = i + 0 then f else σ j) ac a xs (i + 1) (fun j hj => by rw [if_neg (by omega)])]
    rfl
  | x :: xs, σ, i, q + 1 => by
    show (a i, cel ac a (σ i) x) :: (Wd ac a σ (i + 1) xs).set q (a (i + (q + 1)), cel ac a f s') = (a i, cel ac a (if i = i + (q + 1) then f else σ i) x) :: Wd ac a (fun j => if j = i + (q + 1) then f else σ j) (i + 1) (xs.set q s')
    rw [if_neg (by omega), show i + (q + 1) = i + 1 + q by omega, Wd_set ac a f s' xs σ (i + 1) q]
theorem Wd_set0 {ac : Nat → ClassId} {a : Nat → Nat} {f : Nat → Int32} {s' : Shp} {S : List Shp} {σ : Sg} {q : Nat} : (Wd ac a σ 0 S).set q (a q, cel ac a f s') = Wd ac a (fun j => if j = q then f else σ j) 0 (S.set q s') := by
  have := Wd_set ac a f s' S σ 0 q
  rwa [Nat.zero_add] at this
theorem set_same {α : Type} : ∀ (S : List α) (q : Nat) (s : α), S[q]? = some s → S.set q s = S
  | [], q, s, h => by simp at h
  | x :: xs, 0, s, h => by
    simp only [List.getElem?_cons_zero, Option.some.injEq] at h
    subst h
    rfl
  | x :: xs, q + 1, s, h => by
    rw [List.getElem?_cons_succ] at h
    show x :: xs.set q s = x :: xs
    rw [set_same xs q s h]
theorem Wd_puti {ac : Nat → ClassId} {a : Nat → Nat} {S : List Shp} {σ : Sg} {q ci k : Nat} {fl : List (Option Nat)} {v : Int32} (h : S[q]? = some (.inl (ci, fl))) (hk : fl[k]? = some none) : (Wd ac a σ 0 S).set q (a q, .inr (ci, (flds a (σ q) 0 fl).set k (.int v))) = Wd ac a (sgu σ q k v) 0 S := by
  rw [flds_seti a v fl (σ q) 0 k hk, Nat.zero_add]
  show (Wd ac a σ 0 S).set q (a q, cel ac a (upd (σ q) k v) (.inl (ci, fl))) = _
  rw [Wd_set0, set_same S q _ h]
  rfl
theorem Wd_putr {ac : Nat → ClassId} {a : Nat → Nat} {S : List Shp} {σ : Sg} {q ci k r : Nat} {fl : List (Option Nat)} : (Wd ac a σ 0 S).set q (a q, .inr (ci, (flds a (σ q) 0 fl).set k (.ref (a r)))) = Wd ac a σ 0 (S.set q (.inl (ci, fl.set k (some (r + 1))))) := by
  rw [flds_setr a (σ q) r fl 0 k]
  show (Wd ac a σ 0 S).set q (a q, cel ac a (σ q) (.inl (ci, fl.set k (some (r + 1))))) = _
  rw [Wd_set0]
  exact Wd_congr ac a _ 0 (fun j _ => by show (if j = q then σ q else σ j) = σ j; by_cases e : j = q <;> simp [e])
theorem Wd_puta {ac : Nat → ClassId} {a : Nat → Nat} {S : List Shp} {σ : Sg} {q k z n : Nat} {v : Int32} (h : S[q]? = some (.inr (z, n))) : (Wd ac a σ 0 S).set q (a q, .inl (ac z, n, .inl (upd (σ q) k v))) = Wd ac a (sgu σ q k v) 0 S := by
  show (Wd ac a σ 0 S).set q (a q, cel ac a (upd (σ q) k v) (.inr (z, n))) = _
  rw [Wd_set0, set_same S q _ h]
  rfl
def wfS : List Shp → Nat → Bool
  | [], _ => true
  | .inl o :: ss, n => o.2.all (fun x => match x with
    | some (r + 1) => decide (r < n)
    | _ => true) && wfS ss n
  | .inr _ :: ss, n => wfS ss n
theorem Wd_congA {ac : Nat → ClassId} {a a' : Nat → Nat} {σ : Sg} {n : Nat} (h : ∀ q, q < n → a' q = a q) : ∀ (S : List Shp) (i : Nat), wfS S n = true → i + S.length ≤ n → Wd ac a' σ i S = Wd ac a σ i S
  | [], _, _, _ => rfl
  | .inl o :: xs, i, hw, hn => by
    simp only [wfS, Bool.and_eq_true, List.all_eq_true] at hw
    simp only [List.length_cons] at hn
    show (a' i, cel ac a' (σ i) (.inl o)) :: Wd ac a' σ (i + 1) xs = (a i, cel ac a (σ i) (.inl o)) :: Wd ac a σ (i + 1) xs
    rw [Wd_congA h xs (i + 1) hw.2 (by omega), h i (by omega)]
    show (a i, Sum.inr (o.1, flds a' (σ i) 0 o.2)) :: _ = (a i, Sum.inr (o.1, flds a (σ i) 0 o.2)) :: _
    rw [flds_congA (a := a') (a' := a) (σ i) o.2 0 (fun r hr => h r (by have := hw.1 _ hr; simpa using this))]
  | .inr z :: xs, i, hw, hn => by
    simp only [wfS] at hw
    simp only [List.length_cons] at hn
    show (a' i, cel ac a' (σ i) (.inr z)) :: Wd ac a' σ (i + 1) xs = (a i, cel ac a (σ i) (.inr z)) :: Wd ac a σ (i + 1) xs
    rw [Wd_congA h xs (i + 1) hw (by omega), h i (by omega)]
    rfl
theorem Wd_app (ac : Nat → ClassId) (a : Nat → Nat) (σ : Sg) : ∀ (S T : List Shp) (i : Nat), Wd ac a σ i (S ++ T) = Wd ac a σ i S ++ Wd ac a σ (i + S.length) T
  | [], T, i => rfl
  | x :: xs, T, i => by
    show (a i, cel ac a (σ i) x) :: Wd ac a σ (i + 1) (xs ++ T) = (a i, cel ac a (σ i) x) :: (Wd ac a σ (i + 1) xs ++ Wd ac a σ (i + (xs.length + 1)) T)
    rw [Wd_app ac a σ xs T (i + 1), show i + 1 + xs.length = i + (xs.length + 1) by omega]
theorem Wd_push {ac : Nat → ClassId} {a : Nat → Nat} {σ : Sg} {S : List Shp} {s : Shp} {q : Nat} (hw : wfS S S.length = true) (hs : cel ac (fun j => if j = S.length then q else a j) (σ S.length) s = cel ac a (σ S.length) s) : Wd ac a σ 0 S ++ [(q, cel ac a (σ S.length) s)] = Wd ac (fun j => if j = S.length then q else a j) σ 0 (S ++ [s]) := by
  rw [Wd_app, Wd_congA (a := a) (a' := fun j => if j = S.length then q else a j) (n := S.length) (fun j hj => if_neg (by omega)) S 0 hw (by omega), Nat.zero_add]
  show _ = _ ++ [((if S.length = S.length then q else a S.length), cel ac (fun j => if j = S.length then q else a j) (σ S.length) s)]
  rw [if_pos rfl, hs]
end
section
abbrev Nm : Type := List vw_C × List (String × Nat × String × String × String × String) × List (String × Nat × MethodName × String)
abbrev Ctx : Type := Program × Launch × Env × Room × State × MethodId × Array Value × List Frame × Method × Code × va_G × (Nat → ClassId) × ((Nat → Nat) → Prop) × (Nat → Prop) × (State → Prop)
def tys (ac : Nat → ClassId) : List (ClassId × FieldType) := [(ac 0, .int), (ac 1, .boolean)]
def NWok (nm : Nm) (U : State) : Prop := (∀ q ∈ nm.2.1, va_Nw (.fieldLinkNest q.1 q.2.1 q.2.2.1 q.2.2.2.1 q.2.2.2.2.1 q.2.2.2.2.2) U) ∧ ∀ q ∈ nm.2.2, va_Nw (.methodLinkNest q.1 q.2.1 q.2.2.1 q.2.2.2) U
theorem NWok.warm {nm : Nm} {s U : State} (hW : s.WarmedH U.vm) (h : NWok nm s) : NWok nm U := ⟨fun q hq => va_Nw.warmF hW (h.1 q hq), fun q hq => va_Nw.warmM hW (h.2 q hq)⟩
theorem NWok.same {nm : Nm} {u U : State} (e : u.vm = U.vm) (h : NWok nm u) : NWok nm U := ⟨fun q hq => va_Nw.same rfl e (h.1 q hq), fun q hq => va_Nw.same rfl e (h.2 q hq)⟩
def XW (nm : Nm) (X : Ctx) (nL ce sl : Nat) (S : List Shp) (σ : Sg) (pc : Nat) (L : List (Nat × Value)) (st : List Value) : Prop := match X with
  | (p, l, e, R, s, m, args, below, meth, c, D, ac, E, A, Q) => ∀ (a : Nat → Nat) (H : Heap) (locs : List Loc) (ls : Array Slot), E a → va_P D nm.1 (Wd ac a σ 0 S) H → va_D A (Wd ac a σ 0 S) → va_S A s.heap H locs → lv_has ls nL (L.map (cvp a)) → W p l e R s m args below meth c H locs ce sl Q (F0 m pc ls (st.map (cv a)))
def Cx (nm : Nm) (X : Ctx) (cc : ByteArray) (nL : Nat) (own : String) (Ts : List Cond) (rty : Option FieldType) (R0 : Room) : Prop := match X with
  | (p, l, e, R, s, m, args, below, meth, c, D, ac, E, A, Q) => CallFix p m c cc nL s args Ts own ∧ meth.sig.returnType = rty ∧ meth.locks = false ∧ va_K D nm.1 (tys ac) s ∧ NWok nm s ∧ (∀ q, s.heap.size ≤ q → A q) ∧ R = R0
def Ix (X : Ctx) : Prop := match X with
  | (_, _, _, _, _, _, _, _, meth, _, _, _, E, _, _) => meth.name = "<init>"
def Ex (X : Ctx) (n0 : Nat) : Prop := match X with
  | (_, _, _, _, _, _, _, _, _, _, _, _, E, _, _) => ∀ (a a' : Nat → Nat), E a → (∀ q, q < n0 → a' q = a q) → E a'
def QX (cl : List vw_C) (D : va_G) (ac : Nat → ClassId) (E : (Nat → Nat) → Prop) (A : Nat → Prop) (ret : Option Value) (S : List Shp) (σ : Sg) : Array Value → State → Outcome → State → Prop := fun _ st oc t => oc = .returned ret ∧ (∃ a, E a ∧ va_P D cl (Wd ac a σ 0 S) t.heap ∧ va_D A (Wd ac a σ 0 S)) ∧ va_F A st t
def Rx (nm : Nm) (X : Ctx) (mc ms : Nat) (ret : Option Value) (S : List Shp) (σ : Sg) : Prop := match X with
  | (p, l, e, R, s, m, args, below, meth, c, D, ac, E, A, Q) => Q = MQ below (QX nm.1 D ac E A ret S σ) args s mc ms A
def PX (nm : Nm) (D : va_G) (ac : Nat → ClassId) (a : Nat → Nat) (S : List Shp) (σ : Sg) (sz : Nat) (U : State) : Prop := U.heap.size = sz ∧ va_P D nm.1 (Wd ac a σ 0 S) U.heap ∧ va_K D nm.1 (tys ac) U ∧ NWok nm U ∧ va_D (fun _ => True) (Wd ac a σ 0 S)
def Ctr (nm : Nm) (y : MethodName) (ws : List Cond) (rm : Room) (S : List Shp) (σ : Sg) (vs : List Value) (ret : Option Value) (σ' : Sg) : Prop :=
  ∀ (l : Launch) (D : va_G) (ac : Nat → ClassId) (a : Nat → Nat) (sz : Nat), Met l y ws rm (va_Pc (vs.map (cv a)) (PX nm D ac a S σ sz)) (QX nm.1 D ac (fun a' => a' = a) (va_A (Wd ac a σ 0 S) sz) ret S σ') 0 0 (va_A (Wd ac a σ 0 S) sz)
def CtrA (nm : Nm) (y : MethodName) (ws : List Cond) (rm : Room) (mc ms : Nat) (S : List Shp) (σ : Sg) (vs : List Value) (S' : List Shp) (σ' : Sg) : Prop :=
  ∀ (l : Launch) (D : va_G) (ac : Nat → ClassId) (a : Nat → Nat) (sz : Nat), Met l y ws rm (va_Pc (vs.map (cv a)) (PX nm D ac a S σ sz)) (QX nm.1 D ac (fun a' => ∀ q, q < S.length → a' q = a q) (va_A (Wd ac a σ 0 S) sz) none S' σ') mc ms (va_A (Wd ac a σ 0 S) sz)
def fl1 (i : Nat) : Nat × Value → Bool := fun q => !(q.1 == i) && !(q.1 + 1 == i && q.2.category == 2)
def fl2 (i : Nat) : Nat × Value → Bool := fun q => !(q.1 == i) && (!(q.1 == i + 1) && !(q.1 + 1 == i && q.2.category == 2))
theorem map_fl1 (a : Nat → Nat) (i : Nat) : ∀ (L : List (Nat × Value)), (L.map (cvp a)).filter (fl1 i) = (L.filter (fl1 i)).map (cvp a)
  | [] => rfl
  | q :: L => by
    have e : fl1 i (cvp a q) = fl1 i q := by simp only [fl1, cvp, cv_cat]
    simp only [List.map_cons, List.filter_cons, e, map_fl1 a i L]
    by_cases h : fl1 i q = true <;> simp [h]
theorem map_fl2 (a : Nat → Nat) (i : Nat) : ∀ (L : List (Nat × Value)), (L.map (cvp a)).filter (fl2 i) = (L.filter (fl2 i)).map (cvp a)
  | [] => rfl
  | q :: L => by
    have e : fl2 i (cvp a q) = fl2 i q := by simp only [fl2, cvp, cv_cat]
    simp only [List.map_cons, List.filter_cons, e, map_fl2 a i L]
    by_cases h : fl2 i q = true <;> simp [h]
theorem pick_map {f : Nat × Value → Nat × Value} (l : List (Nat × Value)) : ∀ (ks : List Nat), lv_pick (l.map f) ks = (lv_pick l ks).map f
  | [] => rfl
  | k :: ks => by
    have ih := pick_map (f := f) l ks
    unfold lv_pick at ih ⊢
    simp only [List.filterMap_cons, List.getElem?_map]
    cases h : l[k]? with
    | none => simpa [List.getElem?_map] using ih
    | some v => simpa [List.getElem?_map] using ih
theorem ps_fl1 (a : Nat → Nat) {i : Nat} {v : Value} {L L' : List (Nat × Value)} {ks : List Nat} (h : lv_pick ((i, v) :: L.filter (fl1 i)) ks = L') : lv_pick ((i, cv a v) :: (L.map (cvp a)).filter (fl1 i)) ks = L'.map (cvp a) := by
  rw [map_fl1, ← h, ← pick_map]
  rfl
theorem ps_fl2 (a : Nat → Nat) {i : Nat} {v : Value} {L L' : List (Nat × Value)} {ks : List Nat} (h : lv_pick ((i, v) :: L.filter (fl2 i)) ks = L') : lv_pick ((i, cv a v) :: (L.map (cvp a)).filter (fl2 i)) ks = L'.map (cvp a) := by
  rw [map_fl2, ← h, ← pick_map]
  rfl
theorem args_map (a : Nat → Nat) : ∀ (vs : List Value) (i : Nat), lv_args i (vs.map (cv a)) = (lv_args i vs).map (cvp a)
  | [], _ => rfl
  | v :: vs, i => by
    simp only [List.map_cons, lv_args, cv_cat, args_map a vs]
    rfl
theorem lgsl_map (a : Nat → Nat) : ∀ (vs : List Value), (lg_sl (vs.map (cv a))).length = (lg_sl vs).length
  | [] => rfl
  | v :: vs => by
    have ih := lgsl_map a vs
    unfold lg_sl at ih ⊢
    simp only [List.map_cons, List.flatMap_cons, List.length_append, ih, cv_cat]
    by_cases h : v.category = 2 <;> simp [h]
def gd {α : Type} (b : Bool) (x : Option α) : Option α := if b = true then x else none
def vi (i : Int32) (n : Nat) : Bool := !(decide (i < 0) || decide (n ≤ i.toNatClampNeg))
def lt_ {α β : Type} (x : α) (k : α → Option β) : Option β := k x
def bd {β : Type} (o : Option (Int32 × Sg)) (k : Int32 → Sg → Option β) : Option β := match o with
  | none => none
  | some z => k z.1 z.2
def bdl {β : Type} (o : Option (Int64 × Sg)) (k : Int64 → Sg → Option β) : Option β := match o with
  | none => none
  | some z => k z.1 z.2
def bdv {β : Type} (o : Option Sg) (k : Sg → Option β) : Option β := match o with
  | none => none
  | some z => k z
theorem gd_some {α : Type} {b : Bool} {x : Option α} {r : α} (h : gd b x = some r) : b = true ∧ x = some r := by
  unfold gd at h
  by_cases e : b = true
  · rw [if_pos e] at h
    exact ⟨e, h⟩
  · rw [if_neg e] at h
    cases h
theorem vi_in {i : Int32} {n : Nat} (h : vi i n = true) : vp_in i n := by
  unfold vi at h
  unfold vp_in
  simpa using h
theorem bd_some {β : Type} {o : Option (Int32 × Sg)} {k : Int32 → Sg → Option β} {r : β} (h : bd o k = some r) : ∃ v σ, o = some (v, σ) ∧ k v σ = some r := by
  unfold bd at h
  cases o with
  | none => cases h
  | some z => exact ⟨z.1, z.2, rfl, h⟩
theorem bdl_some {β : Type} {o : Option (Int64 × Sg)} {k : Int64 → Sg → Option β} {r : β} (h : bdl o k = some r) : ∃ v σ, o = some (v, σ) ∧ k v σ = some r := by
  unfold bdl at h
  cases o with
  | none => cases h
  | some z => exact ⟨z.1, z.2, rfl, h⟩
theorem bdv_some {β : Type} {o : Option Sg} {k : Sg → Option β} {r : β} (h : bdv o k = some r) : ∃ σ, o = some σ ∧ k σ = some r := by
  unfold bdv at h
  cases o with
  | none => cases h
  | some z => exact ⟨z, rfl, h⟩
theorem P_eq {D : va_G} {cl : List vw_C} {w w' : va_W} {H : Heap} (e : w = w') (h : va_P D cl w H) : va_P D cl w' H := e ▸ h
theorem D_eq {A : Nat → Prop} {w w' : va_W} (e : w = w') (h : va_D A w) : va_D A w' := e ▸ h
theorem cat_sum (a : Nat → Nat) : ∀ (st : List Value), ((st.map (cv a)).map fun v => v.category).sum = (st.map fun v => v.category).sum
  | [] => rfl
  | v :: st => by
    simp only [List.map_cons, List.sum_cons, cv_cat]
    rw [cat_sum a st]
def bz (v : Int32) : Bool := decide (v = 0) || decide (v = 1)
theorem bz_nar {v : Int32} (h : bz v = true) : narrow .boolean (.int v) = .int v := by
  unfold bz at h
  simp only [Bool.or_eq_true, decide_eq_true_eq] at h
  rcases h with rfl | rfl <;> rfl
theorem bz_fits {v : Int32} (h : bz v = true) : fits .boolean (.int v) = true := by
  unfold bz at h
  simp only [Bool.or_eq_true, decide_eq_true_eq] at h
  rcases h with rfl | rfl <;> rfl
section XR
variable {nm : Nm} {X : Ctx} {cc : ByteArray} {nL ce sl pc : Nat} {own : String} {Ts : List Cond} {rty : Option FieldType} {R0 : Room} {S : List Shp} {σ : Sg} {L L' : List (Nat × Value)} {st : List Value} {β : Type} {out : β}
theorem X_iconst (C : Cx nm X cc nL own Ts rty R0) {n : Int} {v : Int32} (d : decode cc pc = .ok (.iconst n, 1)) (hv : Int32.ofInt n = v) (k : XW nm X nL ce sl S σ (pc + 1) L (.int v :: st)) : XW nm X nL ce sl S σ (pc) L (st) := by
  obtain ⟨p, l, e, R, s, m, args, below, meth, c, D, ac, E, A, Q⟩ := X
  obtain ⟨⟨hx, hb, hml, hown, hts⟩, hr, hlk, hK, hN, hA, rfl⟩ := C
  intro a H locs ls hE hP hD hS hl
  exact lv_iconst hx hb d hv (k a H locs ls hE hP hD hS hl)
theorem X_bipush (C : Cx nm X cc nL own Ts rty R0) {n : Int} {v : Int32} (d : decode cc pc = .ok (.bipush n, 2)) (hv : (Int8.ofInt n).toInt32 = v) (k : XW nm X nL ce sl S σ (pc + 2) L (.int v :: st)) : XW nm X nL ce sl S σ (pc) L (st) := by
  obtain ⟨p, l, e, R, s, m, args, below, meth, c, D, ac, E, A, Q⟩ := X
  obtain ⟨⟨hx, hb, hml, hown, hts⟩, hr, hlk, hK, hN, hA, rfl⟩ := C
  intro a H locs ls hE hP hD hS hl
  exact lv_bipush hx hb d hv (k a H locs ls hE hP hD hS hl)
theorem X_sipush (C : Cx nm X cc nL own Ts rty R0) {n : Int} {v : Int32} (d : decode cc pc = .ok (.sipush n, 3)) (hv : (Int16.ofInt n).toInt32 = v) (k : XW nm X nL ce sl S σ (pc + 3) L (.int v :: st)) : XW nm X nL ce sl S σ (pc) L (st) := by
  obtain ⟨p, l, e, R, s, m, args, below, meth, c, D, ac, E, A, Q⟩ := X
  obtain ⟨⟨hx, hb, hml, hown, hts⟩, hr, hlk, hK, hN, hA, rfl⟩ := C
  intro a H locs ls hE hP hD hS hl
  exact lv_sipush hx hb d hv (k a H locs ls hE hP hD hS hl)
theorem X_ldc (C : Cx nm X cc nL own Ts rty R0) {index : Nat} {v : Int32} (hw : Cond.constant own index v ∈ Ts) (d : decode cc pc = .ok (.ldc index, 2)) (k : XW nm X nL ce sl S σ (pc + 2) L (.int v :: st)) : XW nm X nL ce sl S σ (pc) L (st) := by
  obtain ⟨p, l, e, R, s, m, args, below, meth, c, D, ac, E, A, Q⟩ := X
  obtain ⟨⟨hx, hb, hml, hown, hts⟩, hr, hlk, hK, hN, hA, rfl⟩ := C
  intro a H locs ls hE hP hD hS hl
  exact lv_ldc hx hb hown (hts _ hw) d (k a H locs ls hE hP hD hS hl)
theorem X_ldc2 (C : Cx nm X cc nL own Ts rty R0) {index : Nat} {v : Int64} (hw : Cond.constantLong own index v ∈ Ts) (d : decode cc pc = .ok (.ldc2_w index, 3)) (k : XW nm X nL ce sl S σ (pc + 3) L (.long v :: st)) : XW nm X nL ce sl S σ (pc) L (st) := by
  obtain ⟨p, l, e, R, s, m, args, below, meth, c, D, ac, E, A, Q⟩ := X
  obtain ⟨⟨hx, hb, hml, hown, hts⟩, hr, hlk, hK, hN, hA, rfl⟩ := C
  intro a H locs ls hE hP hD hS hl
  exact lv_ldc2 hx hb hown (hts _ hw) d (k a H locs ls hE hP hD hS hl)
theorem X_iload_n (C : Cx nm X cc nL own Ts rty R0) {i : Nat} {x : Int32} (kp : Nat) {k0 : Fin 4} (d : decode cc pc = .ok (.iload_n k0, 1)) (hi : (k0 : Nat) = i) (hk : L[kp]? = some (i, .int x)) (k : XW nm X nL ce sl S σ (pc + 1) L (.int x :: st)) : XW nm X nL ce sl S σ (pc) L (st) := by
  obtain ⟨p, l, e, R, s, m, args, below, meth, c, D, ac, E, A, Q⟩ := X
  obtain ⟨⟨hx, hb, hml, hown, hts⟩, hr, hlk, hK, hN, hA, rfl⟩ := C
  intro a H locs ls hE hP hD hS hl
  exact lv_iload_n hx hb d hi (lv_at hl kp (by rw [List.getElem?_map, hk]; rfl)) (k a H locs ls hE hP hD hS hl)
theorem X_iload (C : Cx nm X cc nL own Ts rty R0) {i : Nat} {x : Int32} (kp : Nat) (d : decode cc pc = .ok (.iload i, 2)) (hk : L[kp]? = some (i, .int x)) (k : XW nm X nL ce sl S σ (pc + 2) L (.int x :: st)) : XW nm X nL ce sl S σ (pc) L (st) := by
  obtain ⟨p, l, e, R, s, m, args, below, meth, c, D, ac, E, A, Q⟩ := X
  obtain ⟨⟨hx, hb, hml, hown, hts⟩, hr, hlk, hK, hN, hA, rfl⟩ := C
  intro a H locs ls hE hP hD hS hl
  exact lv_iload hx hb d (lv_at hl kp (by rw [List.getElem?_map, hk]; rfl)) (k a H locs ls hE hP hD hS hl)
theorem X_lload_n (C : Cx nm X cc nL own Ts rty R0) {i : Nat} {x : Int64} (kp : Nat) {k0 : Fin 4} (d : decode cc pc = .ok (.lload_n k0, 1)) (hi : (k0 : Nat) = i) (hk : L[kp]? = some (i, .long x)) (k : XW nm X nL ce sl S σ (pc + 1) L (.long x :: st)) : XW nm X nL ce sl S σ (pc) L (st) := by
  obtain ⟨p, l, e, R, s, m, args, below, meth, c, D, ac, E, A, Q⟩ := X
  obtain ⟨⟨hx, hb, hml, hown, hts⟩, hr, hlk, hK, hN, hA, rfl⟩ := C
  intro a H locs ls hE hP hD hS hl
  exact lv_lload_n hx hb d hi (lv_at hl kp (by rw [List.getElem?_map, hk]; rfl)) (k a H locs ls hE hP hD hS hl)
theorem X_lload (C : Cx nm X cc nL own Ts rty R0) {i : Nat} {x : Int64} (kp : Nat) (d : decode cc pc = .ok (.lload i, 2)) (hk : L[kp]? = some (i, .long x)) (k : XW nm X nL ce sl S σ (pc + 2) L (.long x :: st)) : XW nm X nL ce sl S σ (pc) L (st) := by
  obtain ⟨p, l, e, R, s, m, args, below, meth, c, D, ac, E, A, Q⟩ := X
  obtain ⟨⟨hx, hb, hml, hown, hts⟩, hr, hlk, hK, hN, hA, rfl⟩ := C
  intro a H locs ls hE hP hD hS hl
  exact lv_lload hx hb d (lv_at hl kp (by rw [List.getElem?_map, hk]; rfl)) (k a H locs ls hE hP hD hS hl)
theorem X_aload_n (C : Cx nm X cc nL own Ts rty R0) {i x : Nat} (kp : Nat) {k0 : Fin 4} (d : decode cc pc = .ok (.aload_n k0, 1)) (hi : (k0 : Nat) = i) (hk : L[kp]? = some (i, .ref x)) (k : XW nm X nL ce sl S σ (pc + 1) L (.ref x :: st)) : XW nm X nL ce sl S σ (pc) L (st) := by
  obtain ⟨p, l, e, R, s, m, args, below, meth, c, D, ac, E, A, Q⟩ := X
  obtain ⟨⟨hx, hb, hml, hown, hts⟩, hr, hlk, hK, hN, hA, rfl⟩ := C
  intro a H locs ls hE hP hD hS hl
  exact lv_aload_n (x := a x) hx hb d hi (lv_at hl kp (by rw [List.getElem?_map, hk]; rfl)) (k a H locs ls hE hP hD hS hl)
theorem X_aload (C : Cx nm X cc nL own Ts rty R0) {i x : Nat} (kp : Nat) (d : decode cc pc = .ok (.aload i, 2)) (hk : L[kp]? = some (i, .ref x)) (k : XW nm X nL ce sl S σ (pc + 2) L (.ref x :: st)) : XW nm X nL ce sl S σ (pc) L (st) := by
  obtain ⟨p, l, e, R, s, m, args, below, meth, c, D, ac, E, A, Q⟩ := X
  obtain ⟨⟨hx, hb, hml, hown, hts⟩, hr, hlk, hK, hN, hA, rfl⟩ := C
  intro a H locs ls hE hP hD hS hl
  exact lv_aload (x := a x) hx hb d (lv_at hl kp (by rw [List.getElem?_map, hk]; rfl)) (k a H locs ls hE hP hD hS hl)
theorem X_istore_n (C : Cx nm X cc nL own Ts rty R0) {i : Nat} {x : Int32} {k0 : Fin 4} (ks : List Nat) (d : decode cc pc = .ok (.istore_n k0, 1)) (hi : (k0 : Nat) = i) (hn : i < nL) (hL : lv_pick ((i, Value.int x) :: L.filter (fl1 i)) ks = L') (k : XW nm X nL ce sl S σ (pc + 1) L' (st)) : XW nm X nL ce sl S σ (pc) L (.int x :: st) := by
  obtain ⟨p, l, e, R, s, m, args, below, meth, c, D, ac, E, A, Q⟩ := X
  obtain ⟨⟨hx, hb, hml, hown, hts⟩, hr, hlk, hK, hN, hA, rfl⟩ := C
  intro a H locs ls hE hP hD hS hl
  exact lv_istore_n hx hb d hi hl hn rfl (fun ls hl2 => k a H locs ls hE hP hD hS (lv_sub hl2 ks (ps_fl1 a hL)))
theorem X_istore (C : Cx nm X cc nL own Ts rty R0) {i : Nat} {x : Int32} (ks : List Nat) (d : decode cc pc = .ok (.istore i, 2)) (hn : i < nL) (hL : lv_pick ((i, Value.int x) :: L.filter (fl1 i)) ks = L') (k : XW nm X nL ce sl S σ (pc + 2) L' (st)) : XW nm X nL ce sl S σ (pc) L (.int x :: st) := by
  obtain ⟨p, l, e, R, s, m, args, below, meth, c, D, ac, E, A, Q⟩ := X
  obtain ⟨⟨hx, hb, hml, hown, hts⟩, hr, hlk, hK, hN, hA, rfl⟩ := C
  intro a H locs ls hE hP hD hS hl
  exact lv_istore hx hb d hl hn rfl (fun ls hl2 => k a H locs ls hE hP hD hS (lv_sub hl2 ks (ps_fl1 a hL)))
theorem X_lstore_n (C : Cx nm X cc nL own Ts rty R0) {i : Nat} {x : Int64} {k0 : Fin 4} (ks : List Nat) (d : decode cc pc = .ok (.lstore_n k0, 1)) (hi : (k0 : Nat) = i) (hn : i + 1 < nL) (hL : lv_pick ((i, Value.long x) :: L.filter (fl2 i)) ks = L') (k : XW nm X nL ce sl S σ (pc + 1) L' (st)) : XW nm X nL ce sl S σ (pc) L (.long x :: st) := by
  obtain ⟨p, l, e, R, s, m, args, below, meth, c, D, ac, E, A, Q⟩ := X
  obtain ⟨⟨hx, hb, hml, hown, hts⟩, hr, hlk, hK, hN, hA, rfl⟩ := C
  intro a H locs ls hE hP hD hS hl
  exact lv_lstore_n hx hb d hi hl hn rfl (fun ls hl2 => k a H locs ls hE hP hD hS (lv_sub hl2 ks (ps_fl2 a hL)))
theorem X_lstore (C : Cx nm X cc nL own Ts rty R0) {i : Nat} {x : Int64} (ks : List Nat) (d : decode cc pc = .ok (.lstore i, 2)) (hn : i + 1 < nL) (hL : lv_pick ((i, Value.long x) :: L.filter (fl2 i)) ks = L') (k : XW nm X nL ce sl S σ (pc + 2) L' (st)) : XW nm X nL ce sl S σ (pc) L (.long x :: st) := by
  obtain ⟨p, l, e, R, s, m, args, below, meth, c, D, ac, E, A, Q⟩ := X
  obtain ⟨⟨hx, hb, hml, hown, hts⟩, hr, hlk, hK, hN, hA, rfl⟩ := C
  intro a H locs ls hE hP hD hS hl
  exact lv_lstore hx hb d hl hn rfl (fun ls hl2 => k a H locs ls hE hP hD hS (lv_sub hl2 ks (ps_fl2 a hL)))
theorem X_astore_n (C : Cx nm X cc nL own Ts rty R0) {i : Nat} {x : Nat} {k0 : Fin 4} (ks : List Nat) (d : decode cc pc = .ok (.astore_n k0, 1)) (hi : (k0 : Nat) = i) (hn : i < nL) (hL : lv_pick ((i, Value.ref x) :: L.filter (fl1 i)) ks = L') (k : XW nm X nL ce sl S σ (pc + 1) L' (st)) : XW nm X nL ce sl S σ (pc) L (.ref x :: st) := by
  obtain ⟨p, l, e, R, s, m, args, below, meth, c, D, ac, E, A, Q⟩ := X
  obtain ⟨⟨hx, hb, hml, hown, hts⟩, hr, hlk, hK, hN, hA, rfl⟩ := C
  intro a H locs ls hE hP hD hS hl
  exact lv_astore_n (x := a x) hx hb d hi hl hn rfl (fun ls hl2 => k a H locs ls hE hP hD hS (lv_sub hl2 ks (ps_fl1 a hL)))
theorem X_astore (C : Cx nm X cc nL own Ts rty R0) {i : Nat} {x : Nat} (ks : List Nat) (d : decode cc pc = .ok (.astore i, 2)) (hn : i < nL) (hL : lv_pick ((i, Value.ref x) :: L.filter (fl1 i)) ks = L') (k : XW nm X nL ce sl S σ (pc + 2) L' (st)) : XW nm X nL ce sl S σ (pc) L (.ref x :: st) := by
  obtain ⟨p, l, e, R, s, m, args, below, meth, c, D, ac, E, A, Q⟩ := X
  obtain ⟨⟨hx, hb, hml, hown, hts⟩, hr, hlk, hK, hN, hA, rfl⟩ := C
  intro a H locs ls hE hP hD hS hl
  exact lv_astore (x := a x) hx hb d hl hn rfl (fun ls hl2 => k a H locs ls hE hP hD hS (lv_sub hl2 ks (ps_fl1 a hL)))
theorem X_iinc (C : Cx nm X cc nL own Ts rty R0) {i : Nat} {x v : Int32} {n : Int} (kp : Nat) (ks : List Nat) (d : decode cc pc = .ok (.iinc i n, 3)) (hk : L[kp]? = some (i, .int x)) (hv : Int32.ofInt n = v) (hn : i < nL) (hL : lv_pick ((i, Value.int (x + v)) :: L.filter (fl1 i)) ks = L') (k : XW nm X nL ce sl S σ (pc + 3) L' (st)) : XW nm X nL ce sl S σ (pc) L (st) := by
  obtain ⟨p, l, e, R, s, m, args, below, meth, c, D, ac, E, A, Q⟩ := X
  obtain ⟨⟨hx, hb, hml, hown, hts⟩, hr, hlk, hK, hN, hA, rfl⟩ := C
  intro a H locs ls hE hP hD hS hl
  subst hv
  exact lv_iinc (k := kp) hx hb d hl (by rw [List.getElem?_map, hk]; rfl) rfl hn rfl (fun ls hl2 => k a H locs ls hE hP hD hS (lv_sub hl2 ks (ps_fl1 a hL)))
theorem X_iadd (C : Cx nm X cc nL own Ts rty R0) {x y : Int32} (d : decode cc pc = .ok (.iadd, 1)) (k : XW nm X nL ce sl S σ (pc + 1) L (.int (x + y) :: st)) : XW nm X nL ce sl S σ (pc) L (.int y :: .int x :: st) := by
  obtain ⟨p, l, e, R, s, m, args, below, meth, c, D, ac, E, A, Q⟩ := X
  obtain ⟨⟨hx, hb, hml, hown, hts⟩, hr, hlk, hK, hN, hA, rfl⟩ := C
  intro a H locs ls hE hP hD hS hl
  exact lv_iadd hx hb d (k a H locs ls hE hP hD hS hl)
theorem X_isub (C : Cx nm X cc nL own Ts rty R0) {x y : Int32} (d : decode cc pc = .ok (.isub, 1)) (k : XW nm X nL ce sl S σ (pc + 1) L (.int (x - y) :: st)) : XW nm X nL ce sl S σ (pc) L (.int y :: .int x :: st) := by
  obtain ⟨p, l, e, R, s, m, args, below, meth, c, D, ac, E, A, Q⟩ := X
  obtain ⟨⟨hx, hb, hml, hown, hts⟩, hr, hlk, hK, hN, hA, rfl⟩ := C
  intro a H locs ls hE hP hD hS hl
  exact lv_isub hx hb d (k a H locs ls hE hP hD hS hl)
theorem X_imul (C : Cx nm X cc nL own Ts rty R0) {x y : Int32} (d : decode cc pc = .ok (.imul, 1)) (k : XW nm X nL ce sl S σ (pc + 1) L (.int (x * y) :: st)) : XW nm X nL ce sl S σ (pc) L (.int y :: .int x :: st) := by
  obtain ⟨p, l, e, R, s, m, args, below, meth, c, D, ac, E, A, Q⟩ := X
  obtain ⟨⟨hx, hb, hml, hown, hts⟩, hr, hlk, hK, hN, hA, rfl⟩ := C
  intro a H locs ls hE hP hD hS hl
  exact lv_imul hx hb d (k a H locs ls hE hP hD hS hl)
theorem X_iand (C : Cx nm X cc nL own Ts rty R0) {x y : Int32} (d : decode cc pc = .ok (.iand, 1)) (k : XW nm X nL ce sl S σ (pc + 1) L (.int (x &&& y) :: st)) : XW nm X nL ce sl S σ (pc) L (.int y :: .int x :: st) := by
  obtain ⟨p, l, e, R, s, m, args, below, meth, c, D, ac, E, A, Q⟩ := X
  obtain ⟨⟨hx, hb, hml, hown, hts⟩, hr, hlk, hK, hN, hA, rfl⟩ := C
  intro a H locs ls hE hP hD hS hl
  exact lv_iand hx hb d (k a H locs ls hE hP hD hS hl)
theorem X_ior (C : Cx nm X cc nL own Ts rty R0) {x y : Int32} (d : decode cc pc = .ok (.ior, 1)) (k : XW nm X nL ce sl S σ (pc + 1) L (.int (x ||| y) :: st)) : XW nm X nL ce sl S σ (pc) L (.int y :: .int x :: st) := by
  obtain ⟨p, l, e, R, s, m, args, below, meth, c, D, ac, E, A, Q⟩ := X
  obtain ⟨⟨hx, hb, hml, hown, hts⟩, hr, hlk, hK, hN, hA, rfl⟩ := C
  intro a H locs ls hE hP hD hS hl
  exact lv_ior hx hb d (k a H locs ls hE hP hD hS hl)
theorem X_ishl (C : Cx nm X cc nL own Ts rty R0) {x y : Int32} (d : decode cc pc = .ok (.ishl, 1)) (k : XW nm X nL ce sl S σ (pc + 1) L (.int (x <<< (y &&& 31)) :: st)) : XW nm X nL ce sl S σ (pc) L (.int y :: .int x :: st) := by
  obtain ⟨p, l, e, R, s, m, args, below, meth, c, D, ac, E, A, Q⟩ := X
  obtain ⟨⟨hx, hb, hml, hown, hts⟩, hr, hlk, hK, hN, hA, rfl⟩ := C
  intro a H locs ls hE hP hD hS hl
  exact lv_ishl hx hb d (k a H locs ls hE hP hD hS hl)
theorem X_ishr (C : Cx nm X cc nL own Ts rty R0) {x y : Int32} (d : decode cc pc = .ok (.ishr, 1)) (k : XW nm X nL ce sl S σ (pc + 1) L (.int (x >>> (y &&& 31)) :: st)) : XW nm X nL ce sl S σ (pc) L (.int y :: .int x :: st) := by
  obtain ⟨p, l, e, R, s, m, args, below, meth, c, D, ac, E, A, Q⟩ := X
  obtain ⟨⟨hx, hb, hml, hown, hts⟩, hr, hlk, hK, hN, hA, rfl⟩ := C
  intro a H locs ls hE hP hD hS hl
  exact lv_ishr hx hb d (k a H locs ls hE hP hD hS hl)
theorem X_idiv (C : Cx nm X cc nL own Ts rty R0) {x y : Int32} {f : Option β} (d : decode cc pc = .ok (.idiv, 1)) (hf : gd (!decide (y = 0)) f = some out) (k : f = some out → XW nm X nL ce sl S σ (pc + 1) L (.int (x / y) :: st)) : XW nm X nL ce sl S σ (pc) L (.int y :: .int x :: st) := by
  obtain ⟨p, l, e, R, s, m, args, below, meth, c, D, ac, E, A, Q⟩ := X
  obtain ⟨⟨hx, hb, hml, hown, hts⟩, hr, hlk, hK, hN, hA, rfl⟩ := C
  intro a H locs ls hE hP hD hS hl
  have hg := gd_some hf
  exact lv_idiv hx hb d (by simpa using hg.1) (k hg.2 a H locs ls hE hP hD hS hl)
theorem X_irem (C : Cx nm X cc nL own Ts rty R0) {x y : Int32} {f : Option β} (d : decode cc pc = .ok (.irem, 1)) (hf : gd (!decide (y = 0)) f = some out) (k : f = some out → XW nm X nL ce sl S σ (pc + 1) L (.int (x - x / y * y) :: st)) : XW nm X nL ce sl S σ (pc) L (.int y :: .int x :: st) := by
  obtain ⟨p, l, e, R, s, m, args, below, meth, c, D, ac, E, A, Q⟩ := X
  obtain ⟨⟨hx, hb, hml, hown, hts⟩, hr, hlk, hK, hN, hA, rfl⟩ := C
  intro a H locs ls hE hP hD hS hl
  have hg := gd_some hf
  exact lv_irem hx hb d (by simpa using hg.1) (k hg.2 a H locs ls hE hP hD hS hl)
theorem X_ineg (C : Cx nm X cc nL own Ts rty R0) {x : Int32} (d : decode cc pc = .ok (.ineg, 1)) (k : XW nm X nL ce sl S σ (pc + 1) L (.int (0 - x) :: st)) : XW nm X nL ce sl S σ (pc) L (.int x :: st) := by
  obtain ⟨p, l, e, R, s, m, args, below, meth, c, D, ac, E, A, Q⟩ := X
  obtain ⟨⟨hx, hb, hml, hown, hts⟩, hr, hlk, hK, hN, hA, rfl⟩ := C
  intro a H locs ls hE hP hD hS hl
  exact lv_ineg hx hb d (k a H locs ls hE hP hD hS hl)
theorem X_ladd (C : Cx nm X cc nL own Ts rty R0) {x y : Int64} (d : decode cc pc = .ok (.ladd, 1)) (k : XW nm X nL ce sl S σ (pc + 1) L (.long (x + y) :: st)) : XW nm X nL ce sl S σ (pc) L (.long y :: .long x :: st) := by
  obtain ⟨p, l, e, R, s, m, args, below, meth, c, D, ac, E, A, Q⟩ := X
  obtain ⟨⟨hx, hb, hml, hown, hts⟩, hr, hlk, hK, hN, hA, rfl⟩ := C
  intro a H locs ls hE hP hD hS hl
  exact lv_ladd hx hb d (k a H locs ls hE hP hD hS hl)
theorem X_lsub (C : Cx nm X cc nL own Ts rty R0) {x y : Int64} (d : decode cc pc = .ok (.lsub, 1)) (k : XW nm X nL ce sl S σ (pc + 1) L (.long (x - y) :: st)) : XW nm X nL ce sl S σ (pc) L (.long y :: .long x :: st) := by
  obtain ⟨p, l, e, R, s, m, args, below, meth, c, D, ac, E, A, Q⟩ := X
  obtain ⟨⟨hx, hb, hml, hown, hts⟩, hr, hlk, hK, hN, hA, rfl⟩ := C
  intro a H locs ls hE hP hD hS hl
  exact lv_lsub hx hb d (k a H locs ls hE hP hD hS hl)
theorem X_lmul (C : Cx nm X cc nL own Ts rty R0) {x y : Int64} (d : decode cc pc = .ok (.lmul, 1)) (k : XW nm X nL ce sl S σ (pc + 1) L (.long (x * y) :: st)) : XW nm X nL ce sl S σ (pc) L (.long y :: .long x :: st) := by
  obtain ⟨p, l, e, R, s, m, args, below, meth, c, D, ac, E, A, Q⟩ := X
  obtain ⟨⟨hx, hb, hml, hown, hts⟩, hr, hlk, hK, hN, hA, rfl⟩ := C
  intro a H locs ls hE hP hD hS hl
  exact lv_lmul hx hb d (k a H locs ls hE hP hD hS hl)
theorem X_i2l (C : Cx nm X cc nL own Ts rty R0) {x : Int32} (d : decode cc pc = .ok (.i2l, 1)) (k : XW nm X nL ce sl S σ (pc + 1) L (.long x.toInt64 :: st)) : XW nm X nL ce sl S σ (pc) L (.int x :: st) := by
  obtain ⟨p, l, e, R, s, m, args, below, meth, c, D, ac, E, A, Q⟩ := X
  obtain ⟨⟨hx, hb, hml, hown, hts⟩, hr, hlk, hK, hN, hA, rfl⟩ := C
  intro a H locs ls hE hP hD hS hl
  exact lv_i2l hx hb d rfl (k a H locs ls hE hP hD hS hl)
theorem X_lcmp (C : Cx nm X cc nL own Ts rty R0) {x y : Int64} (d : decode cc pc = .ok (.lcmp, 1)) (k : XW nm X nL ce sl S σ (pc + 1) L (.int (lg_cmp x y) :: st)) : XW nm X nL ce sl S σ (pc) L (.long y :: .long x :: st) := by
  obtain ⟨p, l, e, R, s, m, args, below, meth, c, D, ac, E, A, Q⟩ := X
  obtain ⟨⟨hx, hb, hml, hown, hts⟩, hr, hlk, hK, hN, hA, rfl⟩ := C
  intro a H locs ls hE hP hD hS hl
  exact W.lcmp hx hb d (k a H locs ls hE hP hD hS hl)
theorem X_dup (C : Cx nm X cc nL own Ts rty R0) {v : Value} (d : decode cc pc = .ok (.dup, 1)) (h1 : v.category = 1) (k : XW nm X nL ce sl S σ (pc + 1) L (v :: v :: st)) : XW nm X nL ce sl S σ (pc) L (v :: st) := by
  obtain ⟨p, l, e, R, s, m, args, below, meth, c, D, ac, E, A, Q⟩ := X
  obtain ⟨⟨hx, hb, hml, hown, hts⟩, hr, hlk, hK, hN, hA, rfl⟩ := C
  intro a H locs ls hE hP hD hS hl
  exact lv_dup hx hb d ((cv_cat a _).trans h1) (k a H locs ls hE hP hD hS hl)
theorem X_pop (C : Cx nm X cc nL own Ts rty R0) {v : Value} (d : decode cc pc = .ok (.pop, 1)) (h1 : v.category = 1) (k : XW nm X nL ce sl S σ (pc + 1) L (st)) : XW nm X nL ce sl S σ (pc) L (v :: st) := by
  obtain ⟨p, l, e, R, s, m, args, below, meth, c, D, ac, E, A, Q⟩ := X
  obtain ⟨⟨hx, hb, hml, hown, hts⟩, hr, hlk, hK, hN, hA, rfl⟩ := C
  intro a H locs ls hE hP hD hS hl
  exact lv_pop hx hb d ((cv_cat a _).trans h1) (k a H locs ls hE hP hD hS hl)
theorem X_dup_x1 (C : Cx nm X cc nL own Ts rty R0) {v u : Value} (d : decode cc pc = .ok (.dup_x1, 1)) (h1 : v.category = 1) (h2 : u.category = 1) (k : XW nm X nL ce sl S σ (pc + 1) L (v :: u :: v :: st)) : XW nm X nL ce sl S σ (pc) L (v :: u :: st) := by
  obtain ⟨p, l, e, R, s, m, args, below, meth, c, D, ac, E, A, Q⟩ := X
  obtain ⟨⟨hx, hb, hml, hown, hts⟩, hr, hlk, hK, hN, hA, rfl⟩ := C
  intro a H locs ls hE hP hD hS hl
  exact lv_dup_x1 hx hb d ((cv_cat a _).trans h1) ((cv_cat a _).trans h2) (k a H locs ls hE hP hD hS hl)
theorem X_dup2 (C : Cx nm X cc nL own Ts rty R0) {v u : Value} (d : decode cc pc = .ok (.dup2, 1)) (h1 : v.category = 1) (h2 : u.category = 1) (k : XW nm X nL ce sl S σ (pc + 1) L (v :: u :: v :: u :: st)) : XW nm X nL ce sl S σ (pc) L (v :: u :: st) := by
  obtain ⟨p, l, e, R, s, m, args, below, meth, c, D, ac, E, A, Q⟩ := X
  obtain ⟨⟨hx, hb, hml, hown, hts⟩, hr, hlk, hK, hN, hA, rfl⟩ := C
  intro a H locs ls hE hP hD hS hl
  exact lv_dup2_11 hx hb d ((cv_cat a _).trans h1) ((cv_cat a _).trans h2) (k a H locs ls hE hP hD hS hl)
theorem X_if_eq (C : Cx nm X cc nL own Ts rty R0) {x : Int32} {off : Int} {tgt : Nat} {f g : Option β} (d : decode cc pc = .ok (.ifCond .eq off, 3)) (ht : (pc : Int) + off = (tgt : Int)) (hf : (if x = 0 then f else g) = some out) (kt : f = some out → XW nm X nL ce sl S σ (tgt) L (st)) (kf : g = some out → XW nm X nL ce sl S σ (pc + 3) L (st)) : XW nm X nL ce sl S σ (pc) L (.int x :: st) := by
  obtain ⟨p, l, e, R, s, m, args, below, meth, c, D, ac, E, A, Q⟩ := X
  obtain ⟨⟨hx, hb, hml, hown, hts⟩, hr, hlk, hK, hN, hA, rfl⟩ := C
  intro a H locs ls hE hP hD hS hl
  exact lv_if_eq hx hb d ht (fun hc => kt (by rw [if_pos hc] at hf; exact hf) a H locs ls hE hP hD hS hl) (fun hc => kf (by rw [if_neg hc] at hf; exact hf) a H locs ls hE hP hD hS hl)
theorem X_icmp_eq (C : Cx nm X cc nL own Ts rty R0) {x y : Int32} {off : Int} {tgt : Nat} {f g : Option β} (d : decode cc pc = .ok (.if_icmp .eq off, 3)) (ht : (pc : Int) + off = (tgt : Int)) (hf : (if x = y then f else g) = some out) (kt : f = some out → XW nm X nL ce sl S σ (tgt) L (st)) (kf : g = some out → XW nm X nL ce sl S σ (pc + 3) L (st)) : XW nm X nL ce sl S σ (pc) L (.int y :: .int x :: st) := by
  obtain ⟨p, l, e, R, s, m, args, below, meth, c, D, ac, E, A, Q⟩ := X
  obtain ⟨⟨hx, hb, hml, hown, hts⟩, hr, hlk, hK, hN, hA, rfl⟩ := C
  intro a H locs ls hE hP hD hS hl
  exact lv_icmp_eq hx hb d ht (fun hc => kt (by rw [if_pos hc] at hf; exact hf) a H locs ls hE hP hD hS hl) (fun hc => kf (by rw [if_neg hc] at hf; exact hf) a H locs ls hE hP hD hS hl)
theorem X_if_ne (C : Cx nm X cc nL own Ts rty R0) {x : Int32} {off : Int} {tgt : Nat} {f g : Option β} (d : decode cc pc = .ok (.ifCond .ne off, 3)) (ht : (pc : Int) + off = (tgt : Int)) (hf : (if x = 0 then f else g) = some out) (kt : g = some out → XW nm X nL ce sl S σ (tgt) L (st)) (kf : f = some out → XW nm X nL ce sl S σ (pc + 3) L (st)) : XW nm X nL ce sl S σ (pc) L (.int x :: st) := by
  obtain ⟨p, l, e, R, s, m, args, below, meth, c, D, ac, E, A, Q⟩ := X
  obtain ⟨⟨hx, hb, hml, hown, hts⟩, hr, hlk, hK, hN, hA, rfl⟩ := C
  intro a H locs ls hE hP hD hS hl
  exact lv_if_ne hx hb d ht (fun hc => kt (by rw [if_neg hc] at hf; exact hf) a H locs ls hE hP hD hS hl) (fun hc => kf (by rw [if_pos hc] at hf; exact hf) a H locs ls hE hP hD hS hl)
theorem X_icmp_ne (C : Cx nm X cc nL own Ts rty R0) {x y : Int32} {off : Int} {tgt : Nat} {f g : Option β} (d : decode cc pc = .ok (.if_icmp .ne off, 3)) (ht : (pc : Int) + off = (tgt : Int)) (hf : (if x = y then f else g) = some out) (kt : g = some out → XW nm X nL ce sl S σ (tgt) L (st)) (kf : f = some out → XW nm X nL ce sl S σ (pc + 3) L (st)) : XW nm X nL ce sl S σ (pc) L (.int y :: .int x :: st) := by
  obtain ⟨p, l, e, R, s, m, args, below, meth, c, D, ac, E, A, Q⟩ := X
  obtain ⟨⟨hx, hb, hml, hown, hts⟩, hr, hlk, hK, hN, hA, rfl⟩ := C
  intro a H locs ls hE hP hD hS hl
  exact lv_icmp_ne hx hb d ht (fun hc => kt (by rw [if_neg hc] at hf; exact hf) a H locs ls hE hP hD hS hl) (fun hc => kf (by rw [if_pos hc] at hf; exact hf) a H locs ls hE hP hD hS hl)
theorem X_if_lt (C : Cx nm X cc nL own Ts rty R0) {x : Int32} {off : Int} {tgt : Nat} {f g : Option β} (d : decode cc pc = .ok (.ifCond .lt off, 3)) (ht : (pc : Int) + off = (tgt : Int)) (hf : (if x < 0 then f else g) = some out) (kt : f = some out → XW nm X nL ce sl S σ (tgt) L (st)) (kf : g = some out → XW nm X nL ce sl S σ (pc + 3) L (st)) : XW nm X nL ce sl S σ (pc) L (.int x :: st) := by
  obtain ⟨p, l, e, R, s, m, args, below, meth, c, D, ac, E, A, Q⟩ := X
  obtain ⟨⟨hx, hb, hml, hown, hts⟩, hr, hlk, hK, hN, hA, rfl⟩ := C
  intro a H locs ls hE hP hD hS hl
  exact lv_if_lt hx hb d ht (fun hc => kt (by rw [if_pos hc] at hf; exact hf) a H locs ls hE hP hD hS hl) (fun hc => kf (by rw [if_neg hc] at hf; exact hf) a H locs ls hE hP hD hS hl)
theorem X_icmp_lt (C : Cx nm X cc nL own Ts rty R0) {x y : Int32} {off : Int} {tgt : Nat} {f g : Option β} (d : decode cc pc = .ok (.if_icmp .lt off, 3)) (ht : (pc : Int) + off = (tgt : Int)) (hf : (if x < y then f else g) = some out) (kt : f = some out → XW nm X nL ce sl S σ (tgt) L (st)) (kf : g = some out → XW nm X nL ce sl S σ (pc + 3) L (st)) : XW nm X nL ce sl S σ (pc) L (.int y :: .int x :: st) := by
  obtain ⟨p, l, e, R, s, m, args, below, meth, c, D, ac, E, A, Q⟩ := X
  obtain ⟨⟨hx, hb, hml, hown, hts⟩, hr, hlk, hK, hN, hA, rfl⟩ := C
  intro a H locs ls hE hP hD hS hl
  exact lv_icmp_lt hx hb d ht (fun hc => kt (by rw [if_pos hc] at hf; exact hf) a H locs ls hE hP hD hS hl) (fun hc => kf (by rw [if_neg hc] at hf; exact hf) a H locs ls hE hP hD hS hl)
theorem X_if_ge (C : Cx nm X cc nL own Ts rty R0) {x : Int32} {off : Int} {tgt : Nat} {f g : Option β} (d : decode cc pc = .ok (.ifCond .ge off, 3)) (ht : (pc : Int) + off = (tgt : Int)) (hf : (if 0 ≤ x then f else g) = some out) (kt : f = some out → XW nm X nL ce sl S σ (tgt) L (st)) (kf : g = some out → XW nm X nL ce sl S σ (pc + 3) L (st)) : XW nm X nL ce sl S σ (pc) L (.int x :: st) := by
  obtain ⟨p, l, e, R, s, m, args, below, meth, c, D, ac, E, A, Q⟩ := X
  obtain ⟨⟨hx, hb, hml, hown, hts⟩, hr, hlk, hK, hN, hA, rfl⟩ := C
  intro a H locs ls hE hP hD hS hl
  exact lv_if_ge hx hb d ht (fun hc => kt (by rw [if_pos hc] at hf; exact hf) a H locs ls hE hP hD hS hl) (fun hc => kf (by rw [if_neg hc] at hf; exact hf) a H locs ls hE hP hD hS hl)
theorem X_icmp_ge (C : Cx nm X cc nL own Ts rty R0) {x y : Int32} {off : Int} {tgt : Nat} {f g : Option β} (d : decode cc pc = .ok (.if_icmp .ge off, 3)) (ht : (pc : Int) + off = (tgt : Int)) (hf : (if y ≤ x then f else g) = some out) (kt : f = some out → XW nm X nL ce sl S σ (tgt) L (st)) (kf : g = some out → XW nm X nL ce sl S σ (pc + 3) L (st)) : XW nm X nL ce sl S σ (pc) L (.int y :: .int x :: st) := by
  obtain ⟨p, l, e, R, s, m, args, below, meth, c, D, ac, E, A, Q⟩ := X
  obtain ⟨⟨hx, hb, hml, hown, hts⟩, hr, hlk, hK, hN, hA, rfl⟩ := C
  intro a H locs ls hE hP hD hS hl
  exact lv_icmp_ge hx hb d ht (fun hc => kt (by rw [if_pos hc] at hf; exact hf) a H locs ls hE hP hD hS hl) (fun hc => kf (by rw [if_neg hc] at hf; exact hf) a H locs ls hE hP hD hS hl)
theorem X_if_gt (C : Cx nm X cc nL own Ts rty R0) {x : Int32} {off : Int} {tgt : Nat} {f g : Option β} (d : decode cc pc = .ok (.ifCond .gt off, 3)) (ht : (pc : Int) + off = (tgt : Int)) (hf : (if 0 < x then f else g) = some out) (kt : f = some out → XW nm X nL ce sl S σ (tgt) L (st)) (kf : g = some out → XW nm X nL ce sl S σ (pc + 3) L (st)) : XW nm X nL ce sl S σ (pc) L (.int x :: st) := by
  obtain ⟨p, l, e, R, s, m, args, below, meth, c, D, ac, E, A, Q⟩ := X
  obtain ⟨⟨hx, hb, hml, hown, hts⟩, hr, hlk, hK, hN, hA, rfl⟩ := C
  intro a H locs ls hE hP hD hS hl
  exact lv_if_gt hx hb d ht (fun hc => kt (by rw [if_pos hc] at hf; exact hf) a H locs ls hE hP hD hS hl) (fun hc => kf (by rw [if_neg hc] at hf; exact hf) a H locs ls hE hP hD hS hl)
theorem X_icmp_gt (C : Cx nm X cc nL own Ts rty R0) {x y : Int32} {off : Int} {tgt : Nat} {f g : Option β} (d : decode cc pc = .ok (.if_icmp .gt off, 3)) (ht : (pc : Int) + off = (tgt : Int)) (hf : (if y < x then f else g) = some out) (kt : f = some out → XW nm X nL ce sl S σ (tgt) L (st)) (kf : g = some out → XW nm X nL ce sl S σ (pc + 3) L (st)) : XW nm X nL ce sl S σ (pc) L (.int y :: .int x :: st) := by
  obtain ⟨p, l, e, R, s, m, args, below, meth, c, D, ac, E, A, Q⟩ := X
  obtain ⟨⟨hx, hb, hml, hown, hts⟩, hr, hlk, hK, hN, hA, rfl⟩ := C
  intro a H locs ls hE hP hD hS hl
  exact lv_icmp_gt hx hb d ht (fun hc => kt (by rw [if_pos hc] at hf; exact hf) a H locs ls hE hP hD hS hl) (fun hc => kf (by rw [if_neg hc] at hf; exact hf) a H locs ls hE hP hD hS hl)
theorem X_if_le (C : Cx nm X cc nL own Ts rty R0) {x : Int32} {off : Int} {tgt : Nat} {f g : Option β} (d : decode cc pc = .ok (.ifCond .le off, 3)) (ht : (pc : Int) + off = (tgt : Int)) (hf : (if x ≤ 0 then f else g) = some out) (kt : f = some out → XW nm X nL ce sl S σ (tgt) L (st)) (kf : g = some out → XW nm X nL ce sl S σ (pc + 3) L (st)) : XW nm X nL ce sl S σ (pc) L (.int x :: st) := by
  obtain ⟨p, l, e, R, s, m, args, below, meth, c, D, ac, E, A, Q⟩ := X
  obtain ⟨⟨hx, hb, hml, hown, hts⟩, hr, hlk, hK, hN, hA, rfl⟩ := C
  intro a H locs ls hE hP hD hS hl
  exact lv_if_le hx hb d ht (fun hc => kt (by rw [if_pos hc] at hf; exact hf) a H locs ls hE hP hD hS hl) (fun hc => kf (by rw [if_neg hc] at hf; exact hf) a H locs ls hE hP hD hS hl)
theorem X_icmp_le (C : Cx nm X cc nL own Ts rty R0) {x y : Int32} {off : Int} {tgt : Nat} {f g : Option β} (d : decode cc pc = .ok (.if_icmp .le off, 3)) (ht : (pc : Int) + off = (tgt : Int)) (hf : (if x ≤ y then f else g) = some out) (kt : f = some out → XW nm X nL ce sl S σ (tgt) L (st)) (kf : g = some out → XW nm X nL ce sl S σ (pc + 3) L (st)) : XW nm X nL ce sl S σ (pc) L (.int y :: .int x :: st) := by
  obtain ⟨p, l, e, R, s, m, args, below, meth, c, D, ac, E, A, Q⟩ := X
  obtain ⟨⟨hx, hb, hml, hown, hts⟩, hr, hlk, hK, hN, hA, rfl⟩ := C
  intro a H locs ls hE hP hD hS hl
  exact lv_icmp_le hx hb d ht (fun hc => kt (by rw [if_pos hc] at hf; exact hf) a H locs ls hE hP hD hS hl) (fun hc => kf (by rw [if_neg hc] at hf; exact hf) a H locs ls hE hP hD hS hl)
theorem X_goto (C : Cx nm X cc nL own Ts rty R0) {off : Int} {tgt : Nat} (d : decode cc pc = .ok (.goto off, 3)) (ht : (pc : Int) + off = (tgt : Int)) (k : XW nm X nL ce sl S σ (tgt) L (st)) : XW nm X nL ce sl S σ (pc) L (st) := by
  obtain ⟨p, l, e, R, s, m, args, below, meth, c, D, ac, E, A, Q⟩ := X
  obtain ⟨⟨hx, hb, hml, hown, hts⟩, hr, hlk, hK, hN, hA, rfl⟩ := C
  intro a H locs ls hE hP hD hS hl
  exact lv_goto hx hb d ht (k a H locs ls hE hP hD hS hl)
theorem X_tin (C : Cx nm X cc nL own Ts rty R0) {dflt lo hi off : Int} {offs : Array Int} {len tgt : Nat} {x : Int32} (d : decode cc pc = .ok (.tableswitch dflt lo hi offs, len)) (h1 : ¬ x.toInt < lo) (h2 : ¬ hi < x.toInt) (ho : offs[(x.toInt - lo).toNat]? = some off) (ht : (pc : Int) + off = (tgt : Int)) (k : XW nm X nL ce sl S σ (tgt) L (st)) : XW nm X nL ce sl S σ (pc) L (.int x :: st) := by
  obtain ⟨p, l, e, R, s, m, args, below, meth, c, D, ac, E, A, Q⟩ := X
  obtain ⟨⟨hx, hb, hml, hown, hts⟩, hr, hlk, hK, hN, hA, rfl⟩ := C
  intro a H locs ls hE hP hD hS hl
  exact lv_tableIn hx hb d h1 h2 ho ht (k a H locs ls hE hP hD hS hl)
theorem X_tout (C : Cx nm X cc nL own Ts rty R0) {dflt lo hi : Int} {offs : Array Int} {len tgt : Nat} {x : Int32} (d : decode cc pc = .ok (.tableswitch dflt lo hi offs, len)) (h : x.toInt < lo ∨ hi < x.toInt) (ht : (pc : Int) + dflt = (tgt : Int)) (k : XW nm X nL ce sl S σ (tgt) L (st)) : XW nm X nL ce sl S σ (pc) L (.int x :: st) := by
  obtain ⟨p, l, e, R, s, m, args, below, meth, c, D, ac, E, A, Q⟩ := X
  obtain ⟨⟨hx, hb, hml, hown, hts⟩, hr, hlk, hK, hN, hA, rfl⟩ := C
  intro a H locs ls hE hP hD hS hl
  exact lv_tableOut hx hb d h ht (k a H locs ls hE hP hD hS hl)
theorem X_nm {x : Int32} {f : Int32 → Option β} (hf : lt_ x f = some out) (k : ∀ y : Int32, f y = some out → XW nm X nL ce sl S σ (pc) L (.int y :: st)) : XW nm X nL ce sl S σ (pc) L (.int x :: st) := k x hf
theorem X_nml {x : Int64} {f : Int64 → Option β} (hf : lt_ x f = some out) (k : ∀ y : Int64, f y = some out → XW nm X nL ce sl S σ (pc) L (.long y :: st)) : XW nm X nL ce sl S σ (pc) L (.long x :: st) := k x hf
theorem X_loc (ks : List Nat) (hL : lv_pick L ks = L') (k : XW nm X nL ce sl S σ (pc) L' (st)) : XW nm X nL ce sl S σ (pc) L (st) := by
  obtain ⟨p, l, e, R, s, m, args, below, meth, c, D, ac, E, A, Q⟩ := X
  intro a H locs ls hE hP hD hS hl
  exact k a H locs ls hE hP hD hS (lv_sub hl ks (by rw [pick_map, hL]))
theorem X_geti (C : Cx nm X cc nL own Ts rty R0) {q ci index : Nat} {fl : List (Option Nat)} {Cn : String} {T : u_T} {Nn : Nat} (k0 : Nat) (hq : S[q]? = some (.inl (ci, fl))) (hc : nm.1[ci]? = some (Cn, T, Nn)) (hin : ∀ w ∈ u_ws Cn T Nn, w ∈ Ts) (hk : k0 < Nn) (hw : Cond.fieldLink own index (T k0).1 (T k0).2.1 (T k0).2.2.1 ∈ Ts) (hfl : fl[k0]? = some none) (d : decode cc pc = .ok (.getfield index, 3)) (k : XW nm X nL ce sl S σ (pc + 3) L (.int (σ q k0) :: st)) : XW nm X nL ce sl S σ (pc) L (.ref q :: st) := by
  obtain ⟨p, l, e, R, s, m, args, below, meth, c, D, ac, E, A, Q⟩ := X
  obtain ⟨⟨hx, hb, hml, hown, hts⟩, hr, hlk, hK, hN, hA, rfl⟩ := C
  intro a H locs ls hE hP hD hS hl
  exact va_get hx hb hts hin hown hK hP q (Wd_get0 hq) hc k0 hk (hts _ hw) (fun _ h9 => h9) (by have h9 := flds_get a (σ q) fl 0 k0 _ hfl; rw [Nat.zero_add] at h9; exact h9) d (k a H locs ls hE hP hD hS hl)
theorem X_getr (C : Cx nm X cc nL own Ts rty R0) {r : Nat} {q ci index : Nat} {fl : List (Option Nat)} {Cn : String} {T : u_T} {Nn : Nat} (k0 : Nat) (hq : S[q]? = some (.inl (ci, fl))) (hc : nm.1[ci]? = some (Cn, T, Nn)) (hin : ∀ w ∈ u_ws Cn T Nn, w ∈ Ts) (hk : k0 < Nn) (hw : Cond.fieldLink own index (T k0).1 (T k0).2.1 (T k0).2.2.1 ∈ Ts) (hfl : fl[k0]? = some (some (r + 1))) (d : decode cc pc = .ok (.getfield index, 3)) (k : XW nm X nL ce sl S σ (pc + 3) L (.ref r :: st)) : XW nm X nL ce sl S σ (pc) L (.ref q :: st) := by
  obtain ⟨p, l, e, R, s, m, args, below, meth, c, D, ac, E, A, Q⟩ := X
  obtain ⟨⟨hx, hb, hml, hown, hts⟩, hr, hlk, hK, hN, hA, rfl⟩ := C
  intro a H locs ls hE hP hD hS hl
  exact va_get hx hb hts hin hown hK hP q (Wd_get0 hq) hc k0 hk (hts _ hw) (fun _ h9 => h9) (by have h9 := flds_get a (σ q) fl 0 k0 _ hfl; rw [Nat.zero_add] at h9; exact h9) d (k a H locs ls hE hP hD hS hl)
theorem X_getiN (C : Cx nm X cc nL own Ts rty R0) {q ci index : Nat} {fl : List (Option Nat)} {Cn : String} {T : u_T} {Nn : Nat} (k0 : Nat) (hq : S[q]? = some (.inl (ci, fl))) (hc : nm.1[ci]? = some (Cn, T, Nn)) (hin : ∀ w ∈ u_ws Cn T Nn, w ∈ Ts) (hk : k0 < Nn) {host : String} (hw : (own, index, (T k0).1, (T k0).2.1, (T k0).2.2.1, host) ∈ nm.2.1) (hfl : fl[k0]? = some none) (d : decode cc pc = .ok (.getfield index, 3)) (k : XW nm X nL ce sl S σ (pc + 3) L (.int (σ q k0) :: st)) : XW nm X nL ce sl S σ (pc) L (.ref q :: st) := by
  obtain ⟨p, l, e, R, s, m, args, below, meth, c, D, ac, E, A, Q⟩ := X
  obtain ⟨⟨hx, hb, hml, hown, hts⟩, hr, hlk, hK, hN, hA, rfl⟩ := C
  intro a H locs ls hE hP hD hS hl
  exact va_getN hx hb hts hin hown hK hP q (Wd_get0 hq) hc k0 hk (va_Nw.use rfl (hN.1 _ hw)) (fun _ h9 => h9) (by have h9 := flds_get a (σ q) fl 0 k0 _ hfl; rw [Nat.zero_add] at h9; exact h9) d (k a H locs ls hE hP hD hS hl)
theorem X_getrN (C : Cx nm X cc nL own Ts rty R0) {r : Nat} {q ci index : Nat} {fl : List (Option Nat)} {Cn : String} {T : u_T} {Nn : Nat} (k0 : Nat) (hq : S[q]? = some (.inl (ci, fl))) (hc : nm.1[ci]? = some (Cn, T, Nn)) (hin : ∀ w ∈ u_ws Cn T Nn, w ∈ Ts) (hk : k0 < Nn) {host : String} (hw : (own, index, (T k0).1, (T k0).2.1, (T k0).2.2.1, host) ∈ nm.2.1) (hfl : fl[k0]? = some (some (r + 1))) (d : decode cc pc = .ok (.getfield index, 3)) (k : XW nm X nL ce sl S σ (pc + 3) L (.ref r :: st)) : XW nm X nL ce sl S σ (pc) L (.ref q :: st) := by
  obtain ⟨p, l, e, R, s, m, args, below, meth, c, D, ac, E, A, Q⟩ := X
  obtain ⟨⟨hx, hb, hml, hown, hts⟩, hr, hlk, hK, hN, hA, rfl⟩ := C
  intro a H locs ls hE hP hD hS hl
  exact va_getN hx hb hts hin hown hK hP q (Wd_get0 hq) hc k0 hk (va_Nw.use rfl (hN.1 _ hw)) (fun _ h9 => h9) (by have h9 := flds_get a (σ q) fl 0 k0 _ hfl; rw [Nat.zero_add] at h9; exact h9) d (k a H locs ls hE hP hD hS hl)
theorem X_puti (C : Cx nm X cc nL own Ts rty R0) {v : Int32} {f : Sg → Option β} {q ci index : Nat} {fl : List (Option Nat)} {Cn : String} {T : u_T} {Nn : Nat} (k0 : Nat) (hq : S[q]? = some (.inl (ci, fl))) (hc : nm.1[ci]? = some (Cn, T, Nn)) (hin : ∀ w ∈ u_ws Cn T Nn, w ∈ Ts) (hk : k0 < Nn) (ty0 : Nat → FieldType) (hty : ∀ k, k < Nn → parseFieldDescriptor (T k).2.2.1 = some (ty0 k)) (hnm : ∀ a, a < Nn → ∀ b, b < Nn → a ≠ b → (T a).2.1 ≠ (T b).2.1) (hw : Cond.fieldLink own index (T k0).1 (T k0).2.1 (T k0).2.2.1 ∈ Ts) (hfin : (T k0).2.2.2 = false) (hd : parseFieldDescriptor (T k0).2.2.1 = some .int) (hfl : fl[k0]? = some none) (d : decode cc pc = .ok (.putfield index, 3)) (hf : lt_ (sgu σ q k0 v) f = some out) (k : ∀ σ1 : Sg, f σ1 = some out → XW nm X nL ce sl S σ1 (pc + 3) L (st)) : XW nm X nL ce sl S σ (pc) L (.int v :: .ref q :: st) := by
  obtain ⟨p, l, e, R, s, m, args, below, meth, c, D, ac, E, A, Q⟩ := X
  obtain ⟨⟨hx, hb, hml, hown, hts⟩, hr, hlk, hK, hN, hA, rfl⟩ := C
  intro a H locs ls hE hP hD hS hl
  exact va_put hx hb hts hin ty0 hty hnm hown hK hP hD hS q (Wd_get0 hq) hc k0 hk (hts _ hw) (fun _ h9 => h9) hfin hd rfl rfl (by rw [flds_len]; exact (List.getElem?_eq_some_iff.mp hfl).1) d (fun H1 locs1 hP hD hS => k _ hf a H1 locs1 ls hE (P_eq (Wd_puti (ac := ac) (a := a) (σ := σ) (v := v) hq hfl) hP) (D_eq (Wd_puti (ac := ac) (a := a) (σ := σ) (v := v) hq hfl) hD) hS hl)
theorem X_puti0 (C : Cx nm X cc nL own Ts rty R0) {v : Int32} {q ci index : Nat} {fl : List (Option Nat)} {Cn : String} {T : u_T} {Nn : Nat} (k0 : Nat) (hq : S[q]? = some (.inl (ci, fl))) (hc : nm.1[ci]? = some (Cn, T, Nn)) (hin : ∀ w ∈ u_ws Cn T Nn, w ∈ Ts) (hk : k0 < Nn) (ty0 : Nat → FieldType) (hty : ∀ k, k < Nn → parseFieldDescriptor (T k).2.2.1 = some (ty0 k)) (hnm : ∀ a, a < Nn → ∀ b, b < Nn → a ≠ b → (T a).2.1 ≠ (T b).2.1) (hw : Cond.fieldLink own index (T k0).1 (T k0).2.1 (T k0).2.2.1 ∈ Ts) (hfin : (T k0).2.2.2 = false) (hd : parseFieldDescriptor (T k0).2.2.1 = some .int) (hfl : fl[k0]? = some none) (d : decode cc pc = .ok (.putfield index, 3)) (k : XW nm X nL ce sl S (sgu σ q k0 v) (pc + 3) L (st)) : XW nm X nL ce sl S σ (pc) L (.int v :: .ref q :: st) := by
  obtain ⟨p, l, e, R, s, m, args, below, meth, c, D, ac, E, A, Q⟩ := X
  obtain ⟨⟨hx, hb, hml, hown, hts⟩, hr, hlk, hK, hN, hA, rfl⟩ := C
  intro a H locs ls hE hP hD hS hl
  exact va_put hx hb hts hin ty0 hty hnm hown hK hP hD hS q (Wd_get0 hq) hc k0 hk (hts _ hw) (fun _ h9 => h9) hfin hd rfl rfl (by rw [flds_len]; exact (List.getElem?_eq_some_iff.mp hfl).1) d (fun H1 locs1 hP hD hS => k a H1 locs1 ls hE (P_eq (Wd_puti (ac := ac) (a := a) (σ := σ) (v := v) hq hfl) hP) (D_eq (Wd_puti (ac := ac) (a := a) (σ := σ) (v := v) hq hfl) hD) hS hl)
theorem X_putz (C : Cx nm X cc nL own Ts rty R0) {v : Int32} {f : Sg → Option β} {q ci index : Nat} {fl : List (Option Nat)} {Cn : String} {T : u_T} {Nn : Nat} (k0 : Nat) (hq : S[q]? = some (.inl (ci, fl))) (hc : nm.1[ci]? = some (Cn, T, Nn)) (hin : ∀ w ∈ u_ws Cn T Nn, w ∈ Ts) (hk : k0 < Nn) (ty0 : Nat → FieldType) (hty : ∀ k, k < Nn → parseFieldDescriptor (T k).2.2.1 = some (ty0 k)) (hnm : ∀ a, a < Nn → ∀ b, b < Nn → a ≠ b → (T a).2.1 ≠ (T b).2.1) (hw : Cond.fieldLink own index (T k0).1 (T k0).2.1 (T k0).2.2.1 ∈ Ts) (hfin : (T k0).2.2.2 = false) (hd : parseFieldDescriptor (T k0).2.2.1 = some .boolean) (hfl : fl[k0]? = some none) (d : decode cc pc = .ok (.putfield index, 3)) (hf : gd (bz v) (lt_ (sgu σ q k0 v) f) = some out) (k : ∀ σ1 : Sg, f σ1 = some out → XW nm X nL ce sl S σ1 (pc + 3) L (st)) : XW nm X nL ce sl S σ (pc) L (.int v :: .ref q :: st) := by
  obtain ⟨p, l, e, R, s, m, args, below, meth, c, D, ac, E, A, Q⟩ := X
  obtain ⟨⟨hx, hb, hml, hown, hts⟩, hr, hlk, hK, hN, hA, rfl⟩ := C
  intro a H locs ls hE hP hD hS hl
  have hg := gd_some hf
  exact va_put hx hb hts hin ty0 hty hnm hown hK hP hD hS q (Wd_get0 hq) hc k0 hk (hts _ hw) (fun _ h9 => h9) hfin hd (bz_nar hg.1) (bz_fits hg.1) (by rw [flds_len]; exact (List.getElem?_eq_some_iff.mp hfl).1) d (fun H1 locs1 hP hD hS => k _ hg.2 a H1 locs1 ls hE (P_eq (Wd_puti (ac := ac) (a := a) (σ := σ) (v := v) hq hfl) hP) (D_eq (Wd_puti (ac := ac) (a := a) (σ := σ) (v := v) hq hfl) hD) hS hl)
theorem X_putz0 (C : Cx nm X cc nL own Ts rty R0) {v : Int32} {q ci index : Nat} {fl : List (Option Nat)} {Cn : String} {T : u_T} {Nn : Nat} (k0 : Nat) (hq : S[q]? = some (.inl (ci, fl))) (hc : nm.1[ci]? = some (Cn, T, Nn)) (hin : ∀ w ∈ u_ws Cn T Nn, w ∈ Ts) (hk : k0 < Nn) (ty0 : Nat → FieldType) (hty : ∀ k, k < Nn → parseFieldDescriptor (T k).2.2.1 = some (ty0 k)) (hnm : ∀ a, a < Nn → ∀ b, b < Nn → a ≠ b → (T a).2.1 ≠ (T b).2.1) (hw : Cond.fieldLink own index (T k0).1 (T k0).2.1 (T k0).2.2.1 ∈ Ts) (hfin : (T k0).2.2.2 = false) (hd : parseFieldDescriptor (T k0).2.2.1 = some .boolean) (hfl : fl[k0]? = some none) (hv : bz v = true) (d : decode cc pc = .ok (.putfield index, 3)) (k : XW nm X nL ce sl S (sgu σ q k0 v) (pc + 3) L (st)) : XW nm X nL ce sl S σ (pc) L (.int v :: .ref q :: st) := by
  obtain ⟨p, l, e, R, s, m, args, below, meth, c, D, ac, E, A, Q⟩ := X
  obtain ⟨⟨hx, hb, hml, hown, hts⟩, hr, hlk, hK, hN, hA, rfl⟩ := C
  intro a H locs ls hE hP hD hS hl
  exact va_put hx hb hts hin ty0 hty hnm hown hK hP hD hS q (Wd_get0 hq) hc k0 hk (hts _ hw) (fun _ h9 => h9) hfin hd (bz_nar hv) (bz_fits hv) (by rw [flds_len]; exact (List.getElem?_eq_some_iff.mp hfl).1) d (fun H1 locs1 hP hD hS => k a H1 locs1 ls hE (P_eq (Wd_puti (ac := ac) (a := a) (σ := σ) (v := v) hq hfl) hP) (D_eq (Wd_puti (ac := ac) (a := a) (σ := σ) (v := v) hq hfl) hD) hS hl)
theorem X_putiN (C : Cx nm X cc nL own Ts rty R0) {v : Int32} {f : Sg → Option β} {q ci index : Nat} {fl : List (Option Nat)} {Cn : String} {T : u_T} {Nn : Nat} (k0 : Nat) (hq : S[q]? = some (.inl (ci, fl))) (hc : nm.1[ci]? = some (Cn, T, Nn)) (hin : ∀ w ∈ u_ws Cn T Nn, w ∈ Ts) (hk : k0 < Nn) (ty0 : Nat → FieldType) (hty : ∀ k, k < Nn → parseFieldDescriptor (T k).2.2.1 = some (ty0 k)) (hnm : ∀ a, a < Nn → ∀ b, b < Nn → a ≠ b → (T a).2.1 ≠ (T b).2.1) {host : String} (hw : (own, index, (T k0).1, (T k0).2.1, (T k0).2.2.1, host) ∈ nm.2.1) (hfin : (T k0).2.2.2 = false) (hd : parseFieldDescriptor (T k0).2.2.1 = some .int) (hfl : fl[k0]? = some none) (d : decode cc pc = .ok (.putfield index, 3)) (hf : lt_ (sgu σ q k0 v) f = some out) (k : ∀ σ1 : Sg, f σ1 = some out → XW nm X nL ce sl S σ1 (pc + 3) L (st)) : XW nm X nL ce sl S σ (pc) L (.int v :: .ref q :: st) := by
  obtain ⟨p, l, e, R, s, m, args, below, meth, c, D, ac, E, A, Q⟩ := X
  obtain ⟨⟨hx, hb, hml, hown, hts⟩, hr, hlk, hK, hN, hA, rfl⟩ := C
  intro a H locs ls hE hP hD hS hl
  exact va_putN hx hb hts hin ty0 hty hnm hown hK hP hD hS q (Wd_get0 hq) hc k0 hk (va_Nw.use rfl (hN.1 _ hw)) (fun _ h9 => h9) hfin hd rfl rfl (by rw [flds_len]; exact (List.getElem?_eq_some_iff.mp hfl).1) d (fun H1 locs1 hP hD hS => k _ hf a H1 locs1 ls hE (P_eq (Wd_puti (ac := ac) (a := a) (σ := σ) (v := v) hq hfl) hP) (D_eq (Wd_puti (ac := ac) (a := a) (σ := σ) (v := v) hq hfl) hD) hS hl)
theorem X_putiN0 (C : Cx nm X cc nL own Ts rty R0) {v : Int32} {q ci index : Nat} {fl : List (Option Nat)} {Cn : String} {T : u_T} {Nn : Nat} (k0 : Nat) (hq : S[q]? = some (.inl (ci, fl))) (hc : nm.1[ci]? = some (Cn, T, Nn)) (hin : ∀ w ∈ u_ws Cn T Nn, w ∈ Ts) (hk : k0 < Nn) (ty0 : Nat → FieldType) (hty : ∀ k, k < Nn → parseFieldDescriptor (T k).2.2.1 = some (ty0 k)) (hnm : ∀ a, a < Nn → ∀ b, b < Nn → a ≠ b → (T a).2.1 ≠ (T b).2.1) {host : String} (hw : (own, index, (T k0).1, (T k0).2.1, (T k0).2.2.1, host) ∈ nm.2.1) (hfin : (T k0).2.2.2 = false) (hd : parseFieldDescriptor (T k0).2.2.1 = some .int) (hfl : fl[k0]? = some none) (d : decode cc pc = .ok (.putfield index, 3)) (k : XW nm X nL ce sl S (sgu σ q k0 v) (pc + 3) L (st)) : XW nm X nL ce sl S σ (pc) L (.int v :: .ref q :: st) := by
  obtain ⟨p, l, e, R, s, m, args, below, meth, c, D, ac, E, A, Q⟩ := X
  obtain ⟨⟨hx, hb, hml, hown, hts⟩, hr, hlk, hK, hN, hA, rfl⟩ := C
  intro a H locs ls hE hP hD hS hl
  exact va_putN hx hb hts hin ty0 hty hnm hown hK hP hD hS q (Wd_get0 hq) hc k0 hk (va_Nw.use rfl (hN.1 _ hw)) (fun _ h9 => h9) hfin hd rfl rfl (by rw [flds_len]; exact (List.getElem?_eq_some_iff.mp hfl).1) d (fun H1 locs1 hP hD hS => k a H1 locs1 ls hE (P_eq (Wd_puti (ac := ac) (a := a) (σ := σ) (v := v) hq hfl) hP) (D_eq (Wd_puti (ac := ac) (a := a) (σ := σ) (v := v) hq hfl) hD) hS hl)
theorem X_putzN (C : Cx nm X cc nL own Ts rty R0) {v : Int32} {f : Sg → Option β} {q ci index : Nat} {fl : List (Option Nat)} {Cn : String} {T : u_T} {Nn : Nat} (k0 : Nat) (hq : S[q]? = some (.inl (ci, fl))) (hc : nm.1[ci]? = some (Cn, T, Nn)) (hin : ∀ w ∈ u_ws Cn T Nn, w ∈ Ts) (hk : k0 < Nn) (ty0 : Nat → FieldType) (hty : ∀ k, k < Nn → parseFieldDescriptor (T k).2.2.1 = some (ty0 k)) (hnm : ∀ a, a < Nn → ∀ b, b < Nn → a ≠ b → (T a).2.1 ≠ (T b).2.1) {host : String} (hw : (own, index, (T k0).1, (T k0).2.1, (T k0).2.2.1, host) ∈ nm.2.1) (hfin : (T k0).2.2.2 = false) (hd : parseFieldDescriptor (T k0).2.2.1 = some .boolean) (hfl : fl[k0]? = some none) (d : decode cc pc = .ok (.putfield index, 3)) (hf : gd (bz v) (lt_ (sgu σ q k0 v) f) = some out) (k : ∀ σ1 : Sg, f σ1 = some out → XW nm X nL ce sl S σ1 (pc + 3) L (st)) : XW nm X nL ce sl S σ (pc) L (.int v :: .ref q :: st) := by
  obtain ⟨p, l, e, R, s, m, args, below, meth, c, D, ac, E, A, Q⟩ := X
  obtain ⟨⟨hx, hb, hml, hown, hts⟩, hr, hlk, hK, hN, hA, rfl⟩ := C
  intro a H locs ls hE hP hD hS hl
  have hg := gd_some hf
  exact va_putN hx hb hts hin ty0 hty hnm hown hK hP hD hS q (Wd_get0 hq) hc k0 hk (va_Nw.use rfl (hN.1 _ hw)) (fun _ h9 => h9) hfin hd (bz_nar hg.1) (bz_fits hg.1) (by rw [flds_len]; exact (List.getElem?_eq_some_iff.mp hfl).1) d (fun H1 locs1 hP hD hS => k _ hg.2 a H1 locs1 ls hE (P_eq (Wd_puti (ac := ac) (a := a) (σ := σ) (v := v) hq hfl) hP) (D_eq (Wd_puti (ac := ac) (a := a) (σ := σ) (v := v) hq hfl) hD) hS hl)
theorem X_putzN0 (C : Cx nm X cc nL own Ts rty R0) {v : Int32} {q ci index : Nat} {fl : List (Option Nat)} {Cn : String} {T : u_T} {Nn : Nat} (k0 : Nat) (hq : S[q]? = some (.inl (ci, fl))) (hc : nm.1[ci]? = some (Cn, T, Nn)) (hin : ∀ w ∈ u_ws Cn T Nn, w ∈ Ts) (hk : k0 < Nn) (ty0 : Nat → FieldType) (hty : ∀ k, k < Nn → parseFieldDescriptor (T k).2.2.1 = some (ty0 k)) (hnm : ∀ a, a < Nn → ∀ b, b < Nn → a ≠ b → (T a).2.1 ≠ (T b).2.1) {host : String} (hw : (own, index, (T k0).1, (T k0).2.1, (T k0).2.2.1, host) ∈ nm.2.1) (hfin : (T k0).2.2.2 = false) (hd : parseFieldDescriptor (T k0).2.2.1 = some .boolean) (hfl : fl[k0]? = some none) (hv : bz v = true) (d : decode cc pc = .ok (.putfield index, 3)) (k : XW nm X nL ce sl S (sgu σ q k0 v) (pc + 3) L (st)) : XW nm X nL ce sl S σ (pc) L (.int v :: .ref q :: st) := by
  obtain ⟨p, l, e, R, s, m, args, below, meth, c, D, ac, E, A, Q⟩ := X
  obtain ⟨⟨hx, hb, hml, hown, hts⟩, hr, hlk, hK, hN, hA, rfl⟩ := C
  intro a H locs ls hE hP hD hS hl
  exact va_putN hx hb hts hin ty0 hty hnm hown hK hP hD hS q (Wd_get0 hq) hc k0 hk (va_Nw.use rfl (hN.1 _ hw)) (fun _ h9 => h9) hfin hd (bz_nar hv) (bz_fits hv) (by rw [flds_len]; exact (List.getElem?_eq_some_iff.mp hfl).1) d (fun H1 locs1 hP hD hS => k a H1 locs1 ls hE (P_eq (Wd_puti (ac := ac) (a := a) (σ := σ) (v := v) hq hfl) hP) (D_eq (Wd_puti (ac := ac) (a := a) (σ := σ) (v := v) hq hfl) hD) hS hl)
theorem X_putiF (C : Cx nm X cc nL own Ts rty R0) {v : Int32} {f : Sg → Option β} {q ci index : Nat} {fl : List (Option Nat)} {Cn : String} {T : u_T} {Nn : Nat} (k0 : Nat) (hq : S[q]? = some (.inl (ci, fl))) (hc : nm.1[ci]? = some (Cn, T, Nn)) (hin : ∀ w ∈ u_ws Cn T Nn, w ∈ Ts) (hk : k0 < Nn) (ty0 : Nat → FieldType) (hty : ∀ k, k < Nn → parseFieldDescriptor (T k).2.2.1 = some (ty0 k)) (hnm : ∀ a, a < Nn → ∀ b, b < Nn → a ≠ b → (T a).2.1 ≠ (T b).2.1) (hw : Cond.fieldLink own index (T k0).1 (T k0).2.1 (T k0).2.2.1 ∈ Ts) (hfin : (T k0).2.2.2 = true) (I : Ix X) (hdc : (T k0).1 = own) (hd : parseFieldDescriptor (T k0).2.2.1 = some .int) (hfl : fl[k0]? = some none) (d : decode cc pc = .ok (.putfield index, 3)) (hf : lt_ (sgu σ q k0 v) f = some out) (k : ∀ σ1 : Sg, f σ1 = some out → XW nm X nL ce sl S σ1 (pc + 3) L (st)) : XW nm X nL ce sl S σ (pc) L (.int v :: .ref q :: st) := by
  obtain ⟨p, l, e, R, s, m, args, below, meth, c, D, ac, E, A, Q⟩ := X
  obtain ⟨⟨hx, hb, hml, hown, hts⟩, hr, hlk, hK, hN, hA, rfl⟩ := C
  intro a H locs ls hE hP hD hS hl
  exact va_putF hx hb hts hin ty0 hty hnm hown hK hP hD hS q (Wd_get0 hq) hc k0 hk (hts _ hw) (fun _ h9 => h9) hfin I hdc hd rfl rfl (by rw [flds_len]; exact (List.getElem?_eq_some_iff.mp hfl).1) d (fun H1 locs1 hP hD hS => k _ hf a H1 locs1 ls hE (P_eq (Wd_puti (ac := ac) (a := a) (σ := σ) (v := v) hq hfl) hP) (D_eq (Wd_puti (ac := ac) (a := a) (σ := σ) (v := v) hq hfl) hD) hS hl)
theorem X_putiF0 (C : Cx nm X cc nL own Ts rty R0) {v : Int32} {q ci index : Nat} {fl : List (Option Nat)} {Cn : String} {T : u_T} {Nn : Nat} (k0 : Nat) (hq : S[q]? = some (.inl (ci, fl))) (hc : nm.1[ci]? = some (Cn, T, Nn)) (hin : ∀ w ∈ u_ws Cn T Nn, w ∈ Ts) (hk : k0 < Nn) (ty0 : Nat → FieldType) (hty : ∀ k, k < Nn → parseFieldDescriptor (T k).2.2.1 = some (ty0 k)) (hnm : ∀ a, a < Nn → ∀ b, b < Nn → a ≠ b → (T a).2.1 ≠ (T b).2.1) (hw : Cond.fieldLink own index (T k0).1 (T k0).2.1 (T k0).2.2.1 ∈ Ts) (hfin : (T k0).2.2.2 = true) (I : Ix X) (hdc : (T k0).1 = own) (hd : parseFieldDescriptor (T k0).2.2.1 = some .int) (hfl : fl[k0]? = some none) (d : decode cc pc = .ok (.putfield index, 3)) (k : XW nm X nL ce sl S (sgu σ q k0 v) (pc + 3) L (st)) : XW nm X nL ce sl S σ (pc) L (.int v :: .ref q :: st) := by
  obtain ⟨p, l, e, R, s, m, args, below, meth, c, D, ac, E, A, Q⟩ := X
  obtain ⟨⟨hx, hb, hml, hown, hts⟩, hr, hlk, hK, hN, hA, rfl⟩ := C
  intro a H locs ls hE hP hD hS hl
  exact va_putF hx hb hts hin ty0 hty hnm hown hK hP hD hS q (Wd_get0 hq) hc k0 hk (hts _ hw) (fun _ h9 => h9) hfin I hdc hd rfl rfl (by rw [flds_len]; exact (List.getElem?_eq_some_iff.mp hfl).1) d (fun H1 locs1 hP hD hS => k a H1 locs1 ls hE (P_eq (Wd_puti (ac := ac) (a := a) (σ := σ) (v := v) hq hfl) hP) (D_eq (Wd_puti (ac := ac) (a := a) (σ := σ) (v := v) hq hfl) hD) hS hl)
theorem X_putr (C : Cx nm X cc nL own Ts rty R0) {r : Nat} {ty : FieldType} {x0 : Option Nat} {q ci index : Nat} {fl : List (Option Nat)} {Cn : String} {T : u_T} {Nn : Nat} (k0 : Nat) (hq : S[q]? = some (.inl (ci, fl))) (hc : nm.1[ci]? = some (Cn, T, Nn)) (hin : ∀ w ∈ u_ws Cn T Nn, w ∈ Ts) (hk : k0 < Nn) (ty0 : Nat → FieldType) (hty : ∀ k, k < Nn → parseFieldDescriptor (T k).2.2.1 = some (ty0 k)) (hnm : ∀ a, a < Nn → ∀ b, b < Nn → a ≠ b → (T a).2.1 ≠ (T b).2.1) (hw : Cond.fieldLink own index (T k0).1 (T k0).2.1 (T k0).2.2.1 ∈ Ts) (hfin : (T k0).2.2.2 = true) (I : Ix X) (hdc : (T k0).1 = own) (hd : parseFieldDescriptor (T k0).2.2.1 = some ty) (hrt : ∀ b : Nat, narrow ty (.ref b) = .ref b ∧ fits ty (.ref b) = true) (hfl : fl[k0]? = some x0) (d : decode cc pc = .ok (.putfield index, 3)) (k : XW nm X nL ce sl (S.set q (.inl (ci, fl.set k0 (some (r + 1))))) σ (pc + 3) L (st)) : XW nm X nL ce sl S σ (pc) L (.ref r :: .ref q :: st) := by
  obtain ⟨p, l, e, R, s, m, args, below, meth, c, D, ac, E, A, Q⟩ := X
  obtain ⟨⟨hx, hb, hml, hown, hts⟩, hr, hlk, hK, hN, hA, rfl⟩ := C
  intro a H locs ls hE hP hD hS hl
  exact va_putF hx hb hts hin ty0 hty hnm hown hK hP hD hS q (Wd_get0 hq) hc k0 hk (hts _ hw) (fun _ h9 => h9) hfin I hdc hd (hrt (a r)).1 (hrt (a r)).2 (by rw [flds_len]; exact (List.getElem?_eq_some_iff.mp hfl).1) d (fun H1 locs1 hP hD hS => k a H1 locs1 ls hE (P_eq (Wd_putr (ac := ac) (a := a) (σ := σ) (r := r)) hP) (D_eq (Wd_putr (ac := ac) (a := a) (σ := σ) (r := r)) hD) hS hl)
theorem X_iald (C : Cx nm X cc nL own Ts rty R0) {q n : Nat} {i : Int32} {f : Option β} (hq : S[q]? = some (.inr (0, n))) (d : decode cc pc = .ok (.iaload, 1)) (hf : gd (vi i n) f = some out) (k : f = some out → XW nm X nL ce sl S σ (pc + 1) L (.int (σ q i.toNatClampNeg) :: st)) : XW nm X nL ce sl S σ (pc) L (.int i :: .ref q :: st) := by
  obtain ⟨p, l, e, R, s, m, args, below, meth, c, D, ac, E, A, Q⟩ := X
  obtain ⟨⟨hx, hb, hml, hown, hts⟩, hr, hlk, hK, hN, hA, rfl⟩ := C
  intro a H locs ls hE hP hD hS hl
  have hg := gd_some hf
  exact va_iald hx hb hK hP q 0 (Wd_get0 hq) rfl (vi_in hg.1) d (k hg.2 a H locs ls hE hP hD hS hl)
theorem X_zald (C : Cx nm X cc nL own Ts rty R0) {q n : Nat} {i : Int32} {f : Option β} (hq : S[q]? = some (.inr (1, n))) (d : decode cc pc = .ok (.baload, 1)) (hf : gd (vi i n) f = some out) (k : f = some out → XW nm X nL ce sl S σ (pc + 1) L (.int (σ q i.toNatClampNeg) :: st)) : XW nm X nL ce sl S σ (pc) L (.int i :: .ref q :: st) := by
  obtain ⟨p, l, e, R, s, m, args, below, meth, c, D, ac, E, A, Q⟩ := X
  obtain ⟨⟨hx, hb, hml, hown, hts⟩, hr, hlk, hK, hN, hA, rfl⟩ := C
  intro a H locs ls hE hP hD hS hl
  have hg := gd_some hf
  exact va_zald hx hb hK hP q 1 (Wd_get0 hq) rfl (vi_in hg.1) d (k hg.2 a H locs ls hE hP hD hS hl)
theorem X_iast (C : Cx nm X cc nL own Ts rty R0) {q n : Nat} {i x : Int32} {f : Sg → Option β} (hq : S[q]? = some (.inr (0, n))) (d : decode cc pc = .ok (.iastore, 1)) (hf : gd (vi i n) (lt_ (sgu σ q i.toNatClampNeg x) f) = some out) (k : ∀ σ1 : Sg, f σ1 = some out → XW nm X nL ce sl S σ1 (pc + 1) L (st)) : XW nm X nL ce sl S σ (pc) L (.int x :: .int i :: .ref q :: st) := by
  obtain ⟨p, l, e, R, s, m, args, below, meth, c, D, ac, E, A, Q⟩ := X
  obtain ⟨⟨hx, hb, hml, hown, hts⟩, hr, hlk, hK, hN, hA, rfl⟩ := C
  intro a H locs ls hE hP hD hS hl
  have hg := gd_some hf
  exact va_iast hx hb hK hP hD hS q 0 (Wd_get0 hq) rfl (vi_in hg.1) d (fun H1 locs1 hP hD hS => k _ hg.2 a H1 locs1 ls hE (P_eq (Wd_puta hq) hP) (D_eq (Wd_puta hq) hD) hS hl)
theorem X_iast0 (C : Cx nm X cc nL own Ts rty R0) {q n : Nat} {i x : Int32} (j : Nat) (hq : S[q]? = some (.inr (0, n))) (hi : vi i n = true) (hj : i.toNatClampNeg = j) (d : decode cc pc = .ok (.iastore, 1)) (k : XW nm X nL ce sl S (sgu σ q j x) (pc + 1) L (st)) : XW nm X nL ce sl S σ (pc) L (.int x :: .int i :: .ref q :: st) := by
  obtain ⟨p, l, e, R, s, m, args, below, meth, c, D, ac, E, A, Q⟩ := X
  obtain ⟨⟨hx, hb, hml, hown, hts⟩, hr, hlk, hK, hN, hA, rfl⟩ := C
  intro a H locs ls hE hP hD hS hl
  subst hj
  exact va_iast hx hb hK hP hD hS q 0 (Wd_get0 hq) rfl (vi_in hi) d (fun H1 locs1 hP hD hS => k a H1 locs1 ls hE (P_eq (Wd_puta hq) hP) (D_eq (Wd_puta hq) hD) hS hl)
theorem X_zast (C : Cx nm X cc nL own Ts rty R0) {q n : Nat} {i x : Int32} {f : Sg → Option β} (hq : S[q]? = some (.inr (1, n))) (d : decode cc pc = .ok (.bastore, 1)) (hf : gd (vi i n) (lt_ (sgu σ q i.toNatClampNeg (vp_nar .boolean x)) f) = some out) (k : ∀ σ1 : Sg, f σ1 = some out → XW nm X nL ce sl S σ1 (pc + 1) L (st)) : XW nm X nL ce sl S σ (pc) L (.int x :: .int i :: .ref q :: st) := by
  obtain ⟨p, l, e, R, s, m, args, below, meth, c, D, ac, E, A, Q⟩ := X
  obtain ⟨⟨hx, hb, hml, hown, hts⟩, hr, hlk, hK, hN, hA, rfl⟩ := C
  intro a H locs ls hE hP hD hS hl
  have hg := gd_some hf
  exact va_zast hx hb hK hP hD hS q 1 (Wd_get0 hq) rfl (vi_in hg.1) d (fun H1 locs1 hP hD hS => k _ hg.2 a H1 locs1 ls hE (P_eq (Wd_puta hq) hP) (D_eq (Wd_puta hq) hD) hS hl)
theorem X_alen (C : Cx nm X cc nL own Ts rty R0) {q n z : Nat} {v : Int32} (hq : S[q]? = some (.inr (z, n))) (hz : z = 0) (hv : Int32.ofNat n = v) (d : decode cc pc = .ok (.arraylength, 1)) (k : XW nm X nL ce sl S σ (pc + 1) L (.int v :: st)) : XW nm X nL ce sl S σ (pc) L (.ref q :: st) := by
  obtain ⟨p, l, e, R, s, m, args, below, meth, c, D, ac, E, A, Q⟩ := X
  obtain ⟨⟨hx, hb, hml, hown, hts⟩, hr, hlk, hK, hN, hA, rfl⟩ := C
  intro a H locs ls hE hP hD hS hl
  subst hz
  exact va_alen hx hb hK hP q 0 (Wd_get0 hq) rfl hv d (k a H locs ls hE hP hD hS hl)
theorem X_mmax (C : Cx nm X cc nL own Ts rty R0) {x y : Int32} {index : Nat} (h1 : Cond.methodLink own index Lib.Math.max.name ∈ Ts) (h2 : Cond.static Lib.Math.max.name ∈ Ts) (h3 : Cond.initialized "java/lang/Math" ∈ Ts) (h4 : Cond.code Lib.Math.max.name Lib.Math.max.code 2 (some .int) ∈ Ts) (hR : 1 ≤ R0.frames ∧ (st.map fun v => v.category).sum + 13 ≤ R0.locals ∧ ce ≤ R0.cells ∧ sl ≤ R0.slots) (d : decode cc pc = .ok (.invokestatic index, 3)) (k : XW nm X nL ce sl S σ (pc + 3) L (.int (if x < y then y else x) :: st)) : XW nm X nL ce sl S σ (pc) L (.int y :: .int x :: st) := by
  obtain ⟨p, l, e, R, s, m, args, below, meth, c, D, ac, E, A, Q⟩ := X
  obtain ⟨⟨hx, hb, hml, hown, hts⟩, hr, hlk, hK, hN, hA, rfl⟩ := C
  intro a H locs ls hE hP hD hS hl
  exact va_mmax hx hb (hml.trans hl.1.symm) hown (hts _ h1) (hts _ h2) (hts _ h3) (hts _ h4) hR.1 (by rw [cat_sum]; exact hR.2.1) hR.2.2.1 hR.2.2.2 d (k a H locs ls hE hP hD hS hl)
theorem X_mmin (C : Cx nm X cc nL own Ts rty R0) {x y : Int32} {index : Nat} (h1 : Cond.methodLink own index Lib.Math.min.name ∈ Ts) (h2 : Cond.static Lib.Math.min.name ∈ Ts) (h3 : Cond.initialized "java/lang/Math" ∈ Ts) (h4 : Cond.code Lib.Math.min.name Lib.Math.min.code 2 (some .int) ∈ Ts) (hR : 1 ≤ R0.frames ∧ (st.map fun v => v.category).sum + 13 ≤ R0.locals ∧ ce ≤ R0.cells ∧ sl ≤ R0.slots) (d : decode cc pc = .ok (.invokestatic index, 3)) (k : XW nm X nL ce sl S σ (pc + 3) L (.int (if y < x then y else x) :: st)) : XW nm X nL ce sl S σ (pc) L (.int y :: .int x :: st) := by
  obtain ⟨p, l, e, R, s, m, args, below, meth, c, D, ac, E, A, Q⟩ := X
  obtain ⟨⟨hx, hb, hml, hown, hts⟩, hr, hlk, hK, hN, hA, rfl⟩ := C
  intro a H locs ls hE hP hD hS hl
  exact va_mmin hx hb (hml.trans hl.1.symm) hown (hts _ h1) (hts _ h2) (hts _ h3) (hts _ h4) hR.1 (by rw [cat_sum]; exact hR.2.1) hR.2.2.1 hR.2.2.2 d (k a H locs ls hE hP hD hS hl)
theorem X_iret (C : Cx nm X cc nL own Ts (some .int) R0) {v : Int32} {o : Int32 × Sg} (d : decode cc pc = .ok (.ireturn, 1)) (hf : some (v, σ) = some o) (Rr : Rx nm X ce sl (some (.int o.1)) S o.2) : XW nm X nL ce sl S σ (pc) L ([.int v]) := by
  cases hf
  obtain ⟨p, l, e, R, s, m, args, below, meth, c, D, ac, E, A, Q⟩ := X
  obtain ⟨⟨hx, hb, hml, hown, hts⟩, hr, hlk, hK, hN, hA, rfl⟩ := C
  intro a H locs ls hE hP hD hS hl
  subst Rr
  exact W.iret hx hb hr (fun t ht hW => ⟨rfl, ⟨a, hE, by rw [ht]; exact hP, hD⟩, hS.F ht⟩) hS.2.2 d hlk
theorem X_lret (C : Cx nm X cc nL own Ts (some .long) R0) {v : Int64} {o : Int64 × Sg} (d : decode cc pc = .ok (.lreturn, 1)) (hf : some (v, σ) = some o) (Rr : Rx nm X ce sl (some (.long o.1)) S o.2) : XW nm X nL ce sl S σ (pc) L ([.long v]) := by
  cases hf
  obtain ⟨p, l, e, R, s, m, args, below, meth, c, D, ac, E, A, Q⟩ := X
  obtain ⟨⟨hx, hb, hml, hown, hts⟩, hr, hlk, hK, hN, hA, rfl⟩ := C
  intro a H locs ls hE hP hD hS hl
  subst Rr
  exact W.lret hx hb hr (fun t ht hW => ⟨rfl, ⟨a, hE, by rw [ht]; exact hP, hD⟩, hS.F ht⟩) hS.2.2 d hlk
theorem X_zret (C : Cx nm X cc nL own Ts (some .boolean) R0) {v : Int32} {o : Int32 × Sg} (d : decode cc pc = .ok (.ireturn, 1)) (hf : gd (bz v) (some (v, σ)) = some o) (Rr : Rx nm X ce sl (some (.int o.1)) S o.2) : XW nm X nL ce sl S σ (pc) L ([.int v]) := by
  have hg := gd_some hf
  have hf := hg.2
  cases hf
  obtain ⟨p, l, e, R, s, m, args, below, meth, c, D, ac, E, A, Q⟩ := X
  obtain ⟨⟨hx, hb, hml, hown, hts⟩, hr, hlk, hK, hN, hA, rfl⟩ := C
  intro a H locs ls hE hP hD hS hl
  subst Rr
  exact W.zret hx hb hr (bz_nar hg.1) (fun t ht hW => ⟨rfl, ⟨a, hE, by rw [ht]; exact hP, hD⟩, hS.F ht⟩) hS.2.2 d hlk
theorem X_vret (C : Cx nm X cc nL own Ts none R0) {o : Sg} (d : decode cc pc = .ok (.return_, 1)) (hf : some σ = some o) (Rr : Rx nm X ce sl none S o) : XW nm X nL ce sl S σ (pc) L ([]) := by
  cases hf
  obtain ⟨p, l, e, R, s, m, args, below, meth, c, D, ac, E, A, Q⟩ := X
  obtain ⟨⟨hx, hb, hml, hown, hts⟩, hr, hlk, hK, hN, hA, rfl⟩ := C
  intro a H locs ls hE hP hD hS hl
  subst Rr
  exact W.vret hx hb hr (fun t ht hW => ⟨rfl, ⟨a, hE, by rw [ht]; exact hP, hD⟩, hS.F ht⟩) hS.2.2 d hlk
end XR
end
section
/-! ===== BEGIN words of one list among another's, by their places ===== -/
/-! ===== END ===== -/

/-! ===== BEGIN printed: names, fields, word lists, decode rows ===== -/
def RX0 : String := "IronCampaign$Column"
def TX0 : u_T := fun k => match k with
  | 0 => ("IronCampaign$Column", "charges", "LIronCampaign$Table;", true)
  | _ => ("IronCampaign$Column", "lowest", "I", false)
def tyX0 : Nat → FieldType := fun k => match k with
  | 0 => .object "IronCampaign$Table"
  | _ => .int
abbrev wsX00 : List Cond := u_ws RX0 TX0 2
theorem nmX0 : ∀ a, a < 2 → ∀ b, b < 2 → a ≠ b → (TX0 a).2.1 ≠ (TX0 b).2.1 := by decide +kernel
theorem tyX0_ok : ∀ k, k < 2 → parseFieldDescriptor (TX0 k).2.2.1 = some (tyX0 k) := by decide +kernel
abbrev cX0_init : ByteArray := prog_2_method_1_code
def yX0_init : MethodName := ⟨RX0, "<init>", "()V"⟩
abbrev cX0_size : ByteArray := prog_2_method_2_code
def yX0_size : MethodName := ⟨RX0, "size", "()I"⟩
abbrev cX0_lay : ByteArray := prog_2_method_3_code
def yX0_lay : MethodName := ⟨RX0, "lay", "(IIII)I"⟩
abbrev cX0_coalDownFrom : ByteArray := prog_2_method_4_code
def yX0_coalDownFrom : MethodName := ⟨RX0, "coalDownFrom", "(I)I"⟩
abbrev cX0_burn : ByteArray := prog_2_method_5_code
def yX0_burn : MethodName := ⟨RX0, "burn", "(I)I"⟩
abbrev cX0_lowestIsBurned : ByteArray := prog_2_method_6_code
def yX0_lowestIsBurned : MethodName := ⟨RX0, "lowestIsBurned", "()Z"⟩
def RX1 : String := "IronCampaign$Furnace"
def TX1 : u_T := fun k => match k with
  | 0 => ("IronCampaign$Furnace", "blast", "I", false)
  | 1 => ("IronCampaign$Furnace", "heat", "I", false)
  | 2 => ("IronCampaign$Furnace", "slag", "I", false)
  | 3 => ("IronCampaign$Furnace", "slagOfTick", "I", false)
  | 4 => ("IronCampaign$Furnace", "wear", "I", false)
  | 5 => ("IronCampaign$Furnace", "life", "I", false)
  | 6 => ("IronCampaign$Furnace", "ticks", "I", false)
  | 7 => ("IronCampaign$Furnace", "burned", "I", false)
  | 8 => ("IronCampaign$Furnace", "chills", "I", false)
  | _ => ("IronCampaign$Furnace", "out", "Z", false)
def tyX1 : Nat → FieldType := fun k => match k with
  | 0 => .int
  | 1 => .int
  | 2 => .int
  | 3 => .int
  | 4 => .int
  | 5 => .int
  | 6 => .int
  | 7 => .int
  | 8 => .int
  | _ => .boolean
abbrev wsX10 : List Cond := u_ws RX1 TX1 10
theorem nmX1 : ∀ a, a < 10 → ∀ b, b < 10 → a ≠ b → (TX1 a).2.1 ≠ (TX1 b).2.1 := by decide +kernel
theorem tyX1_ok : ∀ k, k < 10 → parseFieldDescriptor (TX1 k).2.2.1 = some (tyX1 k) := by decide +kernel
abbrev cX1_init : ByteArray := prog_3_method_1_code
def yX1_init : MethodName := ⟨RX1, "<init>", "()V"⟩
abbrev cX1_blow : ByteArray := prog_3_method_2_code
def yX1_blow : MethodName := ⟨RX1, "blow", "(LIronCampaign$Column;LIronCampaign$Hearth;[I)V"⟩
abbrev cX1_bringDown : ByteArray := prog_3_method_3_code
def yX1_bringDown : MethodName := ⟨RX1, "bringDown", "(LIronCampaign$Table;ILIronCampaign$Hearth;[I)V"⟩
abbrev cX1_sortOf : ByteArray := prog_3_method_4_code
def yX1_sortOf : MethodName := ⟨RX1, "sortOf", "(II)I"⟩
def RX2 : String := "IronCampaign$Hearth"
def TX2 : u_T := fun k => match k with
  | 0 => ("IronCampaign$Hearth", "iron", "I", false)
  | 1 => ("IronCampaign$Hearth", "holds", "I", false)
  | 2 => ("IronCampaign$Hearth", "made", "I", false)
  | 3 => ("IronCampaign$Hearth", "spilled", "I", false)
  | 4 => ("IronCampaign$Hearth", "firstCharge", "I", false)
  | 5 => ("IronCampaign$Hearth", "lastCharge", "I", false)
  | _ => ("IronCampaign$Hearth", "leastSort", "I", false)
def tyX2 : Nat → FieldType := fun k => match k with
  | 0 => .int
  | 1 => .int
  | 2 => .int
  | 3 => .int
  | 4 => .int
  | 5 => .int
  | _ => .int
abbrev wsX20 : List Cond := u_ws RX2 TX2 7
theorem nmX2 : ∀ a, a < 7 → ∀ b, b < 7 → a ≠ b → (TX2 a).2.1 ≠ (TX2 b).2.1 := by decide +kernel
theorem tyX2_ok : ∀ k, k < 7 → parseFieldDescriptor (TX2 k).2.2.1 = some (tyX2 k) := by decide +kernel
abbrev cX2_init : ByteArray := prog_4_method_1_code
def yX2_init : MethodName := ⟨RX2, "<init>", "()V"⟩
abbrev cX2_pour : ByteArray := prog_4_method_2_code
def yX2_pour : MethodName := ⟨RX2, "pour", "(III)V"⟩
abbrev cX2_spill : ByteArray := prog_4_method_3_code
def yX2_spill : MethodName := ⟨RX2, "spill", "()I"⟩
abbrev cX2_empty : ByteArray := prog_4_method_4_code
def yX2_empty : MethodName := ⟨RX2, "empty", "()V"⟩
def RX3 : String := "IronCampaign$Planner"
def TX3 : u_T := fun k => match k with
  | 0 => ("IronCampaign$Planner", "water", "[I", true)
  | 1 => ("IronCampaign$Planner", "wood", "[I", true)
  | 2 => ("IronCampaign$Planner", "hope", "[I", true)
  | 3 => ("IronCampaign$Planner", "way", "[I", true)
  | 4 => ("IronCampaign$Planner", "found", "[I", true)
  | 5 => ("IronCampaign$Planner", "best", "[I", true)
  | 6 => ("IronCampaign$Planner", "length", "I", false)
  | 7 => ("IronCampaign$Planner", "mostIron", "I", false)
  | _ => ("IronCampaign$Planner", "planned", "I", false)
def tyX3 : Nat → FieldType := fun k => match k with
  | 0 => .array .int
  | 1 => .array .int
  | 2 => .array .int
  | 3 => .array .int
  | 4 => .array .int
  | 5 => .array .int
  | 6 => .int
  | 7 => .int
  | _ => .int
abbrev wsX30 : List Cond := u_ws RX3 TX3 9
theorem nmX3 : ∀ a, a < 9 → ∀ b, b < 9 → a ≠ b → (TX3 a).2.1 ≠ (TX3 b).2.1 := by decide +kernel
theorem tyX3_ok : ∀ k, k < 9 → parseFieldDescriptor (TX3 k).2.2.1 = some (tyX3 k) := by decide +kernel
abbrev cX3_init : ByteArray := prog_5_method_1_code
def yX3_init : MethodName := ⟨RX3, "<init>", "()V"⟩
abbrev cX3_readMonths : ByteArray := prog_5_method_2_code
def yX3_readMonths : MethodName := ⟨RX3, "readMonths", "(LIronCampaign$Table;LIronCampaign$Table;II)V"⟩
abbrev cX3_settle : ByteArray := prog_5_method_3_code
def yX3_settle : MethodName := ⟨RX3, "settle", "(LIronCampaign$Table;II)I"⟩
abbrev cX3_goOn : ByteArray := prog_5_method_4_code
def yX3_goOn : MethodName := ⟨RX3, "goOn", "(LIronCampaign$Planner;LIronCampaign$Table;IIII)V"⟩
def RX4 : String := "IronCampaign$Sale"
def TX4 : u_T := fun k => match k with
  | 0 => ("IronCampaign$Sale", "pigOf", "[I", true)
  | 1 => ("IronCampaign$Sale", "weight", "[I", true)
  | 2 => ("IronCampaign$Sale", "sortBit", "[I", true)
  | 3 => ("IronCampaign$Sale", "way", "[I", true)
  | 4 => ("IronCampaign$Sale", "best", "[I", true)
  | 5 => ("IronCampaign$Sale", "hope", "[I", true)
  | 6 => ("IronCampaign$Sale", "wants", "[I", true)
  | 7 => ("IronCampaign$Sale", "lots", "I", false)
  | _ => ("IronCampaign$Sale", "bestPay", "I", false)
def tyX4 : Nat → FieldType := fun k => match k with
  | 0 => .array .int
  | 1 => .array .int
  | 2 => .array .int
  | 3 => .array .int
  | 4 => .array .int
  | 5 => .array .int
  | 6 => .array .int
  | 7 => .int
  | _ => .int
abbrev wsX40 : List Cond := u_ws RX4 TX4 9
theorem nmX4 : ∀ a, a < 9 → ∀ b, b < 9 → a ≠ b → (TX4 a).2.1 ≠ (TX4 b).2.1 := by decide +kernel
theorem tyX4_ok : ∀ k, k < 9 → parseFieldDescriptor (TX4 k).2.2.1 = some (tyX4 k) := by decide +kernel
abbrev cX4_init : ByteArray := prog_6_method_1_code
def yX4_init : MethodName := ⟨RX4, "<init>", "()V"⟩
abbrev cX4_settle : ByteArray := prog_6_method_2_code
def yX4_settle : MethodName := ⟨RX4, "settle", "(LIronCampaign$Table;LIronCampaign$Table;)V"⟩
abbrev cX4_readPigs : ByteArray := prog_6_method_3_code
def yX4_readPigs : MethodName := ⟨RX4, "readPigs", "(LIronCampaign$Table;)V"⟩
abbrev cX4_readHopes : ByteArray := prog_6_method_4_code
def yX4_readHopes : MethodName := ⟨RX4, "readHopes", "(LIronCampaign$Table;)V"⟩
abbrev cX4_canTake : ByteArray := prog_6_method_5_code
def yX4_canTake : MethodName := ⟨RX4, "canTake", "(LIronCampaign$Table;II)Z"⟩
abbrev cX4_place : ByteArray := prog_6_method_6_code
def yX4_place : MethodName := ⟨RX4, "place", "(LIronCampaign$Sale;LIronCampaign$Table;II)V"⟩
def RX5 : String := "IronCampaign$Signs"
def TX5 : u_T := fun k => match k with
  | 0 => ("IronCampaign$Signs", "seen", "[I", true)
  | _ => ("IronCampaign$Signs", "toLose", "[I", true)
def tyX5 : Nat → FieldType := fun k => match k with
  | 0 => .array .int
  | _ => .array .int
abbrev wsX50 : List Cond := u_ws RX5 TX5 2
theorem nmX5 : ∀ a, a < 2 → ∀ b, b < 2 → a ≠ b → (TX5 a).2.1 ≠ (TX5 b).2.1 := by decide +kernel
theorem tyX5_ok : ∀ k, k < 2 → parseFieldDescriptor (TX5 k).2.2.1 = some (tyX5 k) := by decide +kernel
abbrev cX5_init : ByteArray := prog_7_method_1_code
def yX5_init : MethodName := ⟨RX5, "<init>", "()V"⟩
abbrev cX5_look : ByteArray := prog_7_method_2_code
def yX5_look : MethodName := ⟨RX5, "look", "(III)V"⟩
def RX6 : String := "IronCampaign$Table"
def TX6 : u_T := fun k => match k with
  | 0 => ("IronCampaign$Table", "cells", "[I", true)
  | 1 => ("IronCampaign$Table", "most", "I", true)
  | 2 => ("IronCampaign$Table", "width", "I", true)
  | _ => ("IronCampaign$Table", "rows", "I", false)
def tyX6 : Nat → FieldType := fun k => match k with
  | 0 => .array .int
  | 1 => .int
  | 2 => .int
  | _ => .int
abbrev wsX60 : List Cond := u_ws RX6 TX6 4
theorem nmX6 : ∀ a, a < 4 → ∀ b, b < 4 → a ≠ b → (TX6 a).2.1 ≠ (TX6 b).2.1 := by decide +kernel
theorem tyX6_ok : ∀ k, k < 4 → parseFieldDescriptor (TX6 k).2.2.1 = some (tyX6 k) := by decide +kernel
abbrev cX6_init : ByteArray := prog_8_method_1_code
def yX6_init : MethodName := ⟨RX6, "<init>", "(II)V"⟩
abbrev cX6_isFull : ByteArray := prog_8_method_2_code
def yX6_isFull : MethodName := ⟨RX6, "isFull", "()Z"⟩
abbrev cX6_add : ByteArray := prog_8_method_3_code
def yX6_add : MethodName := ⟨RX6, "add", "()I"⟩
abbrev cX6_get : ByteArray := prog_8_method_4_code
def yX6_get : MethodName := ⟨RX6, "get", "(II)I"⟩
abbrev cX6_set : ByteArray := prog_8_method_5_code
def yX6_set : MethodName := ⟨RX6, "set", "(III)V"⟩
abbrev cX6_mixInto : ByteArray := prog_8_method_6_code
def yX6_mixInto : MethodName := ⟨RX6, "mixInto", "(J)J"⟩
abbrev cX6_has : ByteArray := prog_8_method_7_code
def yX6_has : MethodName := ⟨RX6, "has", "(II)Z"⟩
def RX7 : String := "IronCampaign"
def TX7 : u_T := fun k => match k with
  | 0 => ("IronCampaign", "baskets", "[I", true)
  | 1 => ("IronCampaign", "richness", "[I", true)
  | 2 => ("IronCampaign", "column", "LIronCampaign$Column;", true)
  | 3 => ("IronCampaign", "hearth", "LIronCampaign$Hearth;", true)
  | 4 => ("IronCampaign", "furnace", "LIronCampaign$Furnace;", true)
  | 5 => ("IronCampaign", "pigs", "LIronCampaign$Table;", true)
  | 6 => ("IronCampaign", "signs", "LIronCampaign$Signs;", true)
  | 7 => ("IronCampaign", "rules", "LIronCampaign$Table;", true)
  | 8 => ("IronCampaign", "forges", "LIronCampaign$Table;", true)
  | 9 => ("IronCampaign", "market", "LIronCampaign$Sale;", true)
  | 10 => ("IronCampaign", "months", "LIronCampaign$Table;", true)
  | 11 => ("IronCampaign", "paces", "LIronCampaign$Table;", true)
  | 12 => ("IronCampaign", "planner", "LIronCampaign$Planner;", true)
  | 13 => ("IronCampaign", "pigsSold", "I", false)
  | _ => ("IronCampaign", "paid", "I", false)
def tyX7 : Nat → FieldType := fun k => match k with
  | 0 => .array .int
  | 1 => .array .int
  | 2 => .object "IronCampaign$Column"
  | 3 => .object "IronCampaign$Hearth"
  | 4 => .object "IronCampaign$Furnace"
  | 5 => .object "IronCampaign$Table"
  | 6 => .object "IronCampaign$Signs"
  | 7 => .object "IronCampaign$Table"
  | 8 => .object "IronCampaign$Table"
  | 9 => .object "IronCampaign$Sale"
  | 10 => .object "IronCampaign$Table"
  | 11 => .object "IronCampaign$Table"
  | 12 => .object "IronCampaign$Planner"
  | 13 => .int
  | _ => .int
abbrev wsX70 : List Cond := u_ws RX7 TX7 15
theorem nmX7 : ∀ a, a < 15 → ∀ b, b < 15 → a ≠ b → (TX7 a).2.1 ≠ (TX7 b).2.1 := by decide +kernel
theorem tyX7_ok : ∀ k, k < 15 → parseFieldDescriptor (TX7 k).2.2.1 = some (tyX7 k) := by decide +kernel
abbrev cX7_init : ByteArray := prog_1_method_1_code
def yX7_init : MethodName := ⟨RX7, "<init>", "()V"⟩
abbrev cX7_buy : ByteArray := prog_1_method_2_code
def yX7_buy : MethodName := ⟨RX7, "buy", "(II)I"⟩
abbrev cX7_rich : ByteArray := prog_1_method_3_code
def yX7_rich : MethodName := ⟨RX7, "rich", "(II)I"⟩
abbrev cX7_charge : ByteArray := prog_1_method_4_code
def yX7_charge : MethodName := ⟨RX7, "charge", "(IIII)I"⟩
abbrev cX7_chargeAt : ByteArray := prog_1_method_5_code
def yX7_chargeAt : MethodName := ⟨RX7, "chargeAt", "(II)I"⟩
abbrev cX7_when : ByteArray := prog_1_method_6_code
def yX7_when : MethodName := ⟨RX7, "when", "(I)I"⟩
abbrev cX7_blast : ByteArray := prog_1_method_7_code
def yX7_blast : MethodName := ⟨RX7, "blast", "(I)I"⟩
abbrev cX7_hearth : ByteArray := prog_1_method_8_code
def yX7_hearth : MethodName := ⟨RX7, "hearth", "(II)I"⟩
abbrev cX7_tick : ByteArray := prog_1_method_9_code
def yX7_tick : MethodName := ⟨RX7, "tick", "(I)I"⟩
abbrev cX7_tap : ByteArray := prog_1_method_10_code
def yX7_tap : MethodName := ⟨RX7, "tap", "()I"⟩
abbrev cX7_about : ByteArray := prog_1_method_11_code
def yX7_about : MethodName := ⟨RX7, "about", "(I)I"⟩
abbrev cX7_store : ByteArray := prog_1_method_12_code
def yX7_store : MethodName := ⟨RX7, "store", "(I)I"⟩
abbrev cX7_pig : ByteArray := prog_1_method_13_code
def yX7_pig : MethodName := ⟨RX7, "pig", "(II)I"⟩
abbrev cX7_sign : ByteArray := prog_1_method_14_code
def yX7_sign : MethodName := ⟨RX7, "sign", "(I)I"⟩
abbrev cX7_lose : ByteArray := prog_1_method_15_code
def yX7_lose : MethodName := ⟨RX7, "lose", "(II)I"⟩
abbrev cX7_rule : ByteArray := prog_1_method_16_code
def yX7_rule : MethodName := ⟨RX7, "rule", "(IZII)I"⟩
abbrev cX7_unrule : ByteArray := prog_1_method_17_code
def yX7_unrule : MethodName := ⟨RX7, "unrule", "()I"⟩
abbrev cX7_forge : ByteArray := prog_1_method_18_code
def yX7_forge : MethodName := ⟨RX7, "forge", "(III)I"⟩
abbrev cX7_sale : ByteArray := prog_1_method_19_code
def yX7_sale : MethodName := ⟨RX7, "sale", "()I"⟩
abbrev cX7_sell : ByteArray := prog_1_method_20_code
def yX7_sell : MethodName := ⟨RX7, "sell", "()I"⟩
abbrev cX7_month : ByteArray := prog_1_method_21_code
def yX7_month : MethodName := ⟨RX7, "month", "(III)I"⟩
abbrev cX7_pace : ByteArray := prog_1_method_22_code
def yX7_pace : MethodName := ⟨RX7, "pace", "(IIII)I"⟩
abbrev cX7_plan : ByteArray := prog_1_method_23_code
def yX7_plan : MethodName := ⟨RX7, "plan", "(IIII)I"⟩
abbrev cX7_paceAt : ByteArray := prog_1_method_24_code
def yX7_paceAt : MethodName := ⟨RX7, "paceAt", "(I)I"⟩
abbrev cX7_count : ByteArray := prog_1_method_25_code
def yX7_count : MethodName := ⟨RX7, "count", "(I)I"⟩
abbrev cX7_digest : ByteArray := prog_1_method_26_code
def yX7_digest : MethodName := ⟨RX7, "digest", "()J"⟩
abbrev cX7_within : ByteArray := prog_1_method_27_code
def yX7_within : MethodName := ⟨RX7, "within", "(III)Z"⟩
abbrev cX7_castPig : ByteArray := prog_1_method_28_code
def yX7_castPig : MethodName := ⟨RX7, "castPig", "()I"⟩
abbrev cX7_followRules : ByteArray := prog_1_method_29_code
def yX7_followRules : MethodName := ⟨RX7, "followRules", "()V"⟩
abbrev cX7_isCalledFor : ByteArray := prog_1_method_30_code
def yX7_isCalledFor : MethodName := ⟨RX7, "isCalledFor", "(I)Z"⟩
def RX8 : String := "IronCampaignModel"
def TX8 : u_T := fun k => match k with
  | 0 => ("IronCampaignModel", "stores", "[I", true)
  | 1 => ("IronCampaignModel", "richness", "[I", true)
  | 2 => ("IronCampaignModel", "charges", "I", false)
  | 3 => ("IronCampaignModel", "lowest", "I", false)
  | 4 => ("IronCampaignModel", "state", "[I", true)
  | 5 => ("IronCampaignModel", "coal", "[I", true)
  | 6 => ("IronCampaignModel", "ore", "[I", true)
  | 7 => ("IronCampaignModel", "flux", "[I", true)
  | 8 => ("IronCampaignModel", "kind", "[I", true)
  | 9 => ("IronCampaignModel", "sort", "[I", true)
  | 10 => ("IronCampaignModel", "made", "[I", true)
  | 11 => ("IronCampaignModel", "blast", "I", false)
  | 12 => ("IronCampaignModel", "holds", "I", false)
  | 13 => ("IronCampaignModel", "life", "I", false)
  | 14 => ("IronCampaignModel", "heat", "I", false)
  | 15 => ("IronCampaignModel", "iron", "I", false)
  | 16 => ("IronCampaignModel", "slag", "I", false)
  | 17 => ("IronCampaignModel", "wear", "I", false)
  | 18 => ("IronCampaignModel", "ticks", "I", false)
  | 19 => ("IronCampaignModel", "burned", "I", false)
  | 20 => ("IronCampaignModel", "chills", "I", false)
  | 21 => ("IronCampaignModel", "spilled", "I", false)
  | 22 => ("IronCampaignModel", "ironMade", "I", false)
  | 23 => ("IronCampaignModel", "out", "Z", false)
  | 24 => ("IronCampaignModel", "leastSort", "I", false)
  | 25 => ("IronCampaignModel", "firstMelted", "I", false)
  | 26 => ("IronCampaignModel", "lastMelted", "I", false)
  | 27 => ("IronCampaignModel", "pigs", "I", false)
  | 28 => ("IronCampaignModel", "pigWeight", "[I", true)
  | 29 => ("IronCampaignModel", "pigSort", "[I", true)
  | 30 => ("IronCampaignModel", "pigFirst", "[I", true)
  | 31 => ("IronCampaignModel", "pigLast", "[I", true)
  | 32 => ("IronCampaignModel", "pigHour", "[I", true)
  | 33 => ("IronCampaignModel", "pigForge", "[I", true)
  | 34 => ("IronCampaignModel", "signs", "[I", true)
  | 35 => ("IronCampaignModel", "losing", "[I", true)
  | 36 => ("IronCampaignModel", "rules", "I", false)
  | 37 => ("IronCampaignModel", "ruleSign", "[I", true)
  | 38 => ("IronCampaignModel", "ruleAbove", "[Z", true)
  | 39 => ("IronCampaignModel", "ruleLimit", "[I", true)
  | 40 => ("IronCampaignModel", "ruleAct", "[I", true)
  | 41 => ("IronCampaignModel", "forges", "I", false)
  | 42 => ("IronCampaignModel", "takes", "[I", true)
  | 43 => ("IronCampaignModel", "wants", "[I", true)
  | 44 => ("IronCampaignModel", "price", "[I", true)
  | 45 => ("IronCampaignModel", "paid", "I", false)
  | 46 => ("IronCampaignModel", "water", "[I", true)
  | 47 => ("IronCampaignModel", "wood", "[I", true)
  | 48 => ("IronCampaignModel", "paceIron", "[I", true)
  | 49 => ("IronCampaignModel", "paceWear", "[I", true)
  | 50 => ("IronCampaignModel", "paceCoal", "[I", true)
  | 51 => ("IronCampaignModel", "plan", "[I", true)
  | 52 => ("IronCampaignModel", "planMany", "I", false)
  | 53 => ("IronCampaignModel", "offered", "[I", true)
  | 54 => ("IronCampaignModel", "offeredMany", "I", false)
  | 55 => ("IronCampaignModel", "bestCode", "I", false)
  | _ => ("IronCampaignModel", "left", "[I", true)
def tyX8 : Nat → FieldType := fun k => match k with
  | 0 => .array .int
  | 1 => .array .int
  | 2 => .int
  | 3 => .int
  | 4 => .array .int
  | 5 => .array .int
  | 6 => .array .int
  | 7 => .array .int
  | 8 => .array .int
  | 9 => .array .int
  | 10 => .array .int
  | 11 => .int
  | 12 => .int
  | 13 => .int
  | 14 => .int
  | 15 => .int
  | 16 => .int
  | 17 => .int
  | 18 => .int
  | 19 => .int
  | 20 => .int
  | 21 => .int
  | 22 => .int
  | 23 => .boolean
  | 24 => .int
  | 25 => .int
  | 26 => .int
  | 27 => .int
  | 28 => .array .int
  | 29 => .array .int
  | 30 => .array .int
  | 31 => .array .int
  | 32 => .array .int
  | 33 => .array .int
  | 34 => .array .int
  | 35 => .array .int
  | 36 => .int
  | 37 => .array .int
  | 38 => .array .boolean
  | 39 => .array .int
  | 40 => .array .int
  | 41 => .int
  | 42 => .array .int
  | 43 => .array .int
  | 44 => .array .int
  | 45 => .int
  | 46 => .array .int
  | 47 => .array .int
  | 48 => .array .int
  | 49 => .array .int
  | 50 => .array .int
  | 51 => .array .int
  | 52 => .int
  | 53 => .array .int
  | 54 => .int
  | 55 => .int
  | _ => .array .int
abbrev wsX80 : List Cond := u_ws RX8 TX8 57
theorem nmX8 : ∀ a, a < 57 → ∀ b, b < 57 → a ≠ b → (TX8 a).2.1 ≠ (TX8 b).2.1 := by decide +kernel
theorem tyX8_ok : ∀ k, k < 57 → parseFieldDescriptor (TX8 k).2.2.1 = some (tyX8 k) := by decide +kernel
abbrev cX8_init : ByteArray := prog_10_method_1_code
def yX8_init : MethodName := ⟨RX8, "<init>", "()V"⟩
abbrev cX8_in : ByteArray := prog_10_method_3_code
def yX8_in : MethodName := ⟨RX8, "in", "(III)Z"⟩
abbrev cX8_buy : ByteArray := prog_10_method_4_code
def yX8_buy : MethodName := ⟨RX8, "buy", "(II)I"⟩
abbrev cX8_store : ByteArray := prog_10_method_5_code
def yX8_store : MethodName := ⟨RX8, "store", "(I)I"⟩
abbrev cX8_rich : ByteArray := prog_10_method_6_code
def yX8_rich : MethodName := ⟨RX8, "rich", "(II)I"⟩
abbrev cX8_charge : ByteArray := prog_10_method_7_code
def yX8_charge : MethodName := ⟨RX8, "charge", "(IIII)I"⟩
abbrev cX8_chargeAt : ByteArray := prog_10_method_8_code
def yX8_chargeAt : MethodName := ⟨RX8, "chargeAt", "(II)I"⟩
abbrev cX8_when : ByteArray := prog_10_method_9_code
def yX8_when : MethodName := ⟨RX8, "when", "(I)I"⟩
abbrev cX8_blast : ByteArray := prog_10_method_10_code
def yX8_blast : MethodName := ⟨RX8, "blast", "(I)I"⟩
abbrev cX8_hearth : ByteArray := prog_10_method_11_code
def yX8_hearth : MethodName := ⟨RX8, "hearth", "(II)I"⟩
abbrev cX8_act : ByteArray := prog_10_method_12_code
def yX8_act : MethodName := ⟨RX8, "act", "(I)V"⟩
abbrev cX8_comesDown : ByteArray := prog_10_method_13_code
def yX8_comesDown : MethodName := ⟨RX8, "comesDown", "()V"⟩
abbrev cX8_oneTick : ByteArray := prog_10_method_14_code
def yX8_oneTick : MethodName := ⟨RX8, "oneTick", "()V"⟩
abbrev cX8_see : ByteArray := prog_10_method_15_code
def yX8_see : MethodName := ⟨RX8, "see", "(II)V"⟩
abbrev cX8_tick : ByteArray := prog_10_method_16_code
def yX8_tick : MethodName := ⟨RX8, "tick", "(I)I"⟩
abbrev cX8_tap : ByteArray := prog_10_method_17_code
def yX8_tap : MethodName := ⟨RX8, "tap", "()I"⟩
abbrev cX8_about : ByteArray := prog_10_method_18_code
def yX8_about : MethodName := ⟨RX8, "about", "(I)I"⟩
abbrev cX8_pig : ByteArray := prog_10_method_19_code
def yX8_pig : MethodName := ⟨RX8, "pig", "(II)I"⟩
abbrev cX8_sign : ByteArray := prog_10_method_20_code
def yX8_sign : MethodName := ⟨RX8, "sign", "(I)I"⟩
abbrev cX8_lose : ByteArray := prog_10_method_21_code
def yX8_lose : MethodName := ⟨RX8, "lose", "(II)I"⟩
abbrev cX8_rule : ByteArray := prog_10_method_22_code
def yX8_rule : MethodName := ⟨RX8, "rule", "(IZII)I"⟩
abbrev cX8_unrule : ByteArray := prog_10_method_23_code
def yX8_unrule : MethodName := ⟨RX8, "unrule", "()I"⟩
abbrev cX8_forge : ByteArray := prog_10_method_24_code
def yX8_forge : MethodName := ⟨RX8, "forge", "(III)I"⟩
abbrev cX8_digit : ByteArray := prog_10_method_25_code
def yX8_digit : MethodName := ⟨RX8, "digit", "(II)I"⟩
abbrev cX8_payOf : ByteArray := prog_10_method_26_code
def yX8_payOf : MethodName := ⟨RX8, "payOf", "(I)I"⟩
abbrev cX8_findSale : ByteArray := prog_10_method_27_code
def yX8_findSale : MethodName := ⟨RX8, "findSale", "()I"⟩
abbrev cX8_sale : ByteArray := prog_10_method_28_code
def yX8_sale : MethodName := ⟨RX8, "sale", "()I"⟩
abbrev cX8_sell : ByteArray := prog_10_method_29_code
def yX8_sell : MethodName := ⟨RX8, "sell", "()I"⟩
abbrev cX8_month : ByteArray := prog_10_method_30_code
def yX8_month : MethodName := ⟨RX8, "month", "(III)I"⟩
abbrev cX8_pace : ByteArray := prog_10_method_31_code
def yX8_pace : MethodName := ⟨RX8, "pace", "(IIII)I"⟩
abbrev cX8_ironOf : ByteArray := prog_10_method_32_code
def yX8_ironOf : MethodName := ⟨RX8, "ironOf", "(IIIIII)I"⟩
abbrev cX8_plan : ByteArray := prog_10_method_33_code
def yX8_plan : MethodName := ⟨RX8, "plan", "(IIII)I"⟩
abbrev cX8_paceAt : ByteArray := prog_10_method_34_code
def yX8_paceAt : MethodName := ⟨RX8, "paceAt", "(I)I"⟩
abbrev cX8_count : ByteArray := prog_10_method_35_code
def yX8_count : MethodName := ⟨RX8, "count", "(I)I"⟩
abbrev cX8_digest : ByteArray := prog_10_method_36_code
def yX8_digest : MethodName := ⟨RX8, "digest", "()J"⟩
def RJ9 : String := "java/lang/Math"
def TJ9 : u_T := fun k => match k with
  | _ => ("", "", "", false)
def tyJ9 : Nat → FieldType := fun k => match k with
  | _ => .int
abbrev wsJ90 : List Cond := u_ws RJ9 TJ9 0
theorem nmJ9 : ∀ a, a < 0 → ∀ b, b < 0 → a ≠ b → (TJ9 a).2.1 ≠ (TJ9 b).2.1 := by decide +kernel
theorem tyJ9_ok : ∀ k, k < 0 → parseFieldDescriptor (TJ9 k).2.2.1 = some (tyJ9 k) := by decide +kernel
def RL : String := "IronCampaignLaw"
abbrev cL_law : ByteArray := code
def yL_law : MethodName := ⟨RL, "law", "([I)Z"⟩
abbrev vwCl : List vw_C := [(RX0, TX0, 2), (RX1, TX1, 10), (RX2, TX2, 7), (RX3, TX3, 9), (RX4, TX4, 9), (RX5, TX5, 2), (RX6, TX6, 4), (RX7, TX7, 15), (RX8, TX8, 57)]
end
section
theorem dX0_init_0 : decode cX0_init 0 = .ok (.aload_n 0, 1) := by decide +kernel
theorem dX0_init_1 : decode cX0_init 1 = .ok (.invokespecial 3, 3) := by decide +kernel
theorem dX0_init_4 : decode cX0_init 4 = .ok (.aload_n 0, 1) := by decide +kernel
theorem dX0_init_5 : decode cX0_init 5 = .ok (.new 9, 3) := by decide +kernel
theorem dX0_init_8 : decode cX0_init 8 = .ok (.dup, 1) := by decide +kernel
theorem dX0_init_9 : decode cX0_init 9 = .ok (.sipush 400, 3) := by decide +kernel
theorem dX0_init_12 : decode cX0_init 12 = .ok (.bipush 7, 2) := by decide +kernel
theorem dX0_init_14 : decode cX0_init 14 = .ok (.invokespecial 11, 3) := by decide +kernel
theorem dX0_init_17 : decode cX0_init 17 = .ok (.putfield 14, 3) := by decide +kernel
theorem dX0_init_20 : decode cX0_init 20 = .ok (.aload_n 0, 1) := by decide +kernel
theorem dX0_init_21 : decode cX0_init 21 = .ok (.iconst 0, 1) := by decide +kernel
theorem dX0_init_22 : decode cX0_init 22 = .ok (.putfield 20, 3) := by decide +kernel
theorem dX0_init_25 : decode cX0_init 25 = .ok (.return_, 1) := by decide +kernel
theorem dX0_size_0 : decode cX0_size 0 = .ok (.aload_n 0, 1) := by decide +kernel
theorem dX0_size_1 : decode cX0_size 1 = .ok (.getfield 14, 3) := by decide +kernel
theorem dX0_size_4 : decode cX0_size 4 = .ok (.getfield 24, 3) := by decide +kernel
theorem dX0_size_7 : decode cX0_size 7 = .ok (.aload_n 0, 1) := by decide +kernel
theorem dX0_size_8 : decode cX0_size 8 = .ok (.getfield 20, 3) := by decide +kernel
theorem dX0_size_11 : decode cX0_size 11 = .ok (.isub, 1) := by decide +kernel
theorem dX0_size_12 : decode cX0_size 12 = .ok (.ireturn, 1) := by decide +kernel
theorem dX0_lay_0 : decode cX0_lay 0 = .ok (.aload_n 0, 1) := by decide +kernel
theorem dX0_lay_1 : decode cX0_lay 1 = .ok (.getfield 14, 3) := by decide +kernel
theorem dX0_lay_4 : decode cX0_lay 4 = .ok (.invokevirtual 27, 3) := by decide +kernel
theorem dX0_lay_7 : decode cX0_lay 7 = .ok (.istore 5, 2) := by decide +kernel
theorem dX0_lay_9 : decode cX0_lay 9 = .ok (.aload_n 0, 1) := by decide +kernel
theorem dX0_lay_10 : decode cX0_lay 10 = .ok (.getfield 14, 3) := by decide +kernel
theorem dX0_lay_13 : decode cX0_lay 13 = .ok (.iload 5, 2) := by decide +kernel
theorem dX0_lay_15 : decode cX0_lay 15 = .ok (.iconst 0, 1) := by decide +kernel
theorem dX0_lay_16 : decode cX0_lay 16 = .ok (.iconst 0, 1) := by decide +kernel
theorem dX0_lay_17 : decode cX0_lay 17 = .ok (.invokevirtual 31, 3) := by decide +kernel
theorem dX0_lay_20 : decode cX0_lay 20 = .ok (.aload_n 0, 1) := by decide +kernel
theorem dX0_lay_21 : decode cX0_lay 21 = .ok (.getfield 14, 3) := by decide +kernel
theorem dX0_lay_24 : decode cX0_lay 24 = .ok (.iload 5, 2) := by decide +kernel
theorem dX0_lay_26 : decode cX0_lay 26 = .ok (.iconst 1, 1) := by decide +kernel
theorem dX0_lay_27 : decode cX0_lay 27 = .ok (.iload_n 1, 1) := by decide +kernel
theorem dX0_lay_28 : decode cX0_lay 28 = .ok (.invokevirtual 31, 3) := by decide +kernel
theorem dX0_lay_31 : decode cX0_lay 31 = .ok (.aload_n 0, 1) := by decide +kernel
theorem dX0_lay_32 : decode cX0_lay 32 = .ok (.getfield 14, 3) := by decide +kernel
theorem dX0_lay_35 : decode cX0_lay 35 = .ok (.iload 5, 2) := by decide +kernel
theorem dX0_lay_37 : decode cX0_lay 37 = .ok (.iconst 2, 1) := by decide +kernel
theorem dX0_lay_38 : decode cX0_lay 38 = .ok (.iload_n 3, 1) := by decide +kernel
theorem dX0_lay_39 : decode cX0_lay 39 = .ok (.invokevirtual 31, 3) := by decide +kernel
theorem dX0_lay_42 : decode cX0_lay 42 = .ok (.aload_n 0, 1) := by decide +kernel
theorem dX0_lay_43 : decode cX0_lay 43 = .ok (.getfield 14, 3) := by decide +kernel
theorem dX0_lay_46 : decode cX0_lay 46 = .ok (.iload 5, 2) := by decide +kernel
theorem dX0_lay_48 : decode cX0_lay 48 = .ok (.iconst 3, 1) := by decide +kernel
theorem dX0_lay_49 : decode cX0_lay 49 = .ok (.iload 4, 2) := by decide +kernel
theorem dX0_lay_51 : decode cX0_lay 51 = .ok (.invokevirtual 31, 3) := by decide +kernel
theorem dX0_lay_54 : decode cX0_lay 54 = .ok (.aload_n 0, 1) := by decide +kernel
theorem dX0_lay_55 : decode cX0_lay 55 = .ok (.getfield 14, 3) := by decide +kernel
theorem dX0_lay_58 : decode cX0_lay 58 = .ok (.iload 5, 2) := by decide +kernel
theorem dX0_lay_60 : decode cX0_lay 60 = .ok (.iconst 4, 1) := by decide +kernel
theorem dX0_lay_61 : decode cX0_lay 61 = .ok (.iload_n 2, 1) := by decide +kernel
theorem dX0_lay_62 : decode cX0_lay 62 = .ok (.invokevirtual 31, 3) := by decide +kernel
theorem dX0_lay_65 : decode cX0_lay 65 = .ok (.aload_n 0, 1) := by decide +kernel
theorem dX0_lay_66 : decode cX0_lay 66 = .ok (.getfield 14, 3) := by decide +kernel
theorem dX0_lay_69 : decode cX0_lay 69 = .ok (.iload 5, 2) := by decide +kernel
theorem dX0_lay_71 : decode cX0_lay 71 = .ok (.iconst 5, 1) := by decide +kernel
theorem dX0_lay_72 : decode cX0_lay 72 = .ok (.iconst (-1), 1) := by decide +kernel
theorem dX0_lay_73 : decode cX0_lay 73 = .ok (.invokevirtual 31, 3) := by decide +kernel
theorem dX0_lay_76 : decode cX0_lay 76 = .ok (.aload_n 0, 1) := by decide +kernel
theorem dX0_lay_77 : decode cX0_lay 77 = .ok (.getfield 14, 3) := by decide +kernel
theorem dX0_lay_80 : decode cX0_lay 80 = .ok (.iload 5, 2) := by decide +kernel
theorem dX0_lay_82 : decode cX0_lay 82 = .ok (.bipush 6, 2) := by decide +kernel
theorem dX0_lay_84 : decode cX0_lay 84 = .ok (.iconst 0, 1) := by decide +kernel
theorem dX0_lay_85 : decode cX0_lay 85 = .ok (.invokevirtual 31, 3) := by decide +kernel
theorem dX0_lay_88 : decode cX0_lay 88 = .ok (.iload 5, 2) := by decide +kernel
theorem dX0_lay_90 : decode cX0_lay 90 = .ok (.ireturn, 1) := by decide +kernel
theorem dX0_coalDownFrom_0 : decode cX0_coalDownFrom 0 = .ok (.iconst 0, 1) := by decide +kernel
theorem dX0_coalDownFrom_1 : decode cX0_coalDownFrom 1 = .ok (.istore_n 2, 1) := by decide +kernel
theorem dX0_coalDownFrom_2 : decode cX0_coalDownFrom 2 = .ok (.aload_n 0, 1) := by decide +kernel
theorem dX0_coalDownFrom_3 : decode cX0_coalDownFrom 3 = .ok (.getfield 20, 3) := by decide +kernel
theorem dX0_coalDownFrom_6 : decode cX0_coalDownFrom 6 = .ok (.istore_n 3, 1) := by decide +kernel
theorem dX0_coalDownFrom_7 : decode cX0_coalDownFrom 7 = .ok (.iload_n 3, 1) := by decide +kernel
theorem dX0_coalDownFrom_8 : decode cX0_coalDownFrom 8 = .ok (.iload_n 1, 1) := by decide +kernel
theorem dX0_coalDownFrom_9 : decode cX0_coalDownFrom 9 = .ok (.if_icmp .gt 32, 3) := by decide +kernel
theorem dX0_coalDownFrom_12 : decode cX0_coalDownFrom 12 = .ok (.iload_n 3, 1) := by decide +kernel
theorem dX0_coalDownFrom_13 : decode cX0_coalDownFrom 13 = .ok (.aload_n 0, 1) := by decide +kernel
theorem dX0_coalDownFrom_14 : decode cX0_coalDownFrom 14 = .ok (.getfield 14, 3) := by decide +kernel
theorem dX0_coalDownFrom_17 : decode cX0_coalDownFrom 17 = .ok (.getfield 24, 3) := by decide +kernel
theorem dX0_coalDownFrom_20 : decode cX0_coalDownFrom 20 = .ok (.if_icmp .ge 21, 3) := by decide +kernel
theorem dX0_coalDownFrom_23 : decode cX0_coalDownFrom 23 = .ok (.iload_n 2, 1) := by decide +kernel
theorem dX0_coalDownFrom_24 : decode cX0_coalDownFrom 24 = .ok (.aload_n 0, 1) := by decide +kernel
theorem dX0_coalDownFrom_25 : decode cX0_coalDownFrom 25 = .ok (.getfield 14, 3) := by decide +kernel
theorem dX0_coalDownFrom_28 : decode cX0_coalDownFrom 28 = .ok (.iload_n 3, 1) := by decide +kernel
theorem dX0_coalDownFrom_29 : decode cX0_coalDownFrom 29 = .ok (.iconst 1, 1) := by decide +kernel
theorem dX0_coalDownFrom_30 : decode cX0_coalDownFrom 30 = .ok (.invokevirtual 35, 3) := by decide +kernel
theorem dX0_coalDownFrom_33 : decode cX0_coalDownFrom 33 = .ok (.iadd, 1) := by decide +kernel
theorem dX0_coalDownFrom_34 : decode cX0_coalDownFrom 34 = .ok (.istore_n 2, 1) := by decide +kernel
theorem dX0_coalDownFrom_35 : decode cX0_coalDownFrom 35 = .ok (.iinc 3 1, 3) := by decide +kernel
theorem dX0_coalDownFrom_38 : decode cX0_coalDownFrom 38 = .ok (.goto (-31), 3) := by decide +kernel
theorem dX0_coalDownFrom_41 : decode cX0_coalDownFrom 41 = .ok (.iload_n 2, 1) := by decide +kernel
theorem dX0_coalDownFrom_42 : decode cX0_coalDownFrom 42 = .ok (.ireturn, 1) := by decide +kernel
theorem dX0_burn_0 : decode cX0_burn 0 = .ok (.iload_n 1, 1) := by decide +kernel
theorem dX0_burn_1 : decode cX0_burn 1 = .ok (.istore_n 2, 1) := by decide +kernel
theorem dX0_burn_2 : decode cX0_burn 2 = .ok (.aload_n 0, 1) := by decide +kernel
theorem dX0_burn_3 : decode cX0_burn 3 = .ok (.getfield 20, 3) := by decide +kernel
theorem dX0_burn_6 : decode cX0_burn 6 = .ok (.istore_n 3, 1) := by decide +kernel
theorem dX0_burn_7 : decode cX0_burn 7 = .ok (.iload_n 3, 1) := by decide +kernel
theorem dX0_burn_8 : decode cX0_burn 8 = .ok (.aload_n 0, 1) := by decide +kernel
theorem dX0_burn_9 : decode cX0_burn 9 = .ok (.getfield 14, 3) := by decide +kernel
theorem dX0_burn_12 : decode cX0_burn 12 = .ok (.getfield 24, 3) := by decide +kernel
theorem dX0_burn_15 : decode cX0_burn 15 = .ok (.if_icmp .ge 51, 3) := by decide +kernel
theorem dX0_burn_18 : decode cX0_burn 18 = .ok (.iload_n 2, 1) := by decide +kernel
theorem dX0_burn_19 : decode cX0_burn 19 = .ok (.ifCond .le 47, 3) := by decide +kernel
theorem dX0_burn_22 : decode cX0_burn 22 = .ok (.aload_n 0, 1) := by decide +kernel
theorem dX0_burn_23 : decode cX0_burn 23 = .ok (.getfield 14, 3) := by decide +kernel
theorem dX0_burn_26 : decode cX0_burn 26 = .ok (.iload_n 3, 1) := by decide +kernel
theorem dX0_burn_27 : decode cX0_burn 27 = .ok (.iconst 1, 1) := by decide +kernel
theorem dX0_burn_28 : decode cX0_burn 28 = .ok (.invokevirtual 35, 3) := by decide +kernel
theorem dX0_burn_31 : decode cX0_burn 31 = .ok (.istore 4, 2) := by decide +kernel
theorem dX0_burn_33 : decode cX0_burn 33 = .ok (.iload 4, 2) := by decide +kernel
theorem dX0_burn_35 : decode cX0_burn 35 = .ok (.iload_n 2, 1) := by decide +kernel
theorem dX0_burn_36 : decode cX0_burn 36 = .ok (.invokestatic 39, 3) := by decide +kernel
theorem dX0_burn_39 : decode cX0_burn 39 = .ok (.istore 5, 2) := by decide +kernel
theorem dX0_burn_41 : decode cX0_burn 41 = .ok (.aload_n 0, 1) := by decide +kernel
theorem dX0_burn_42 : decode cX0_burn 42 = .ok (.getfield 14, 3) := by decide +kernel
theorem dX0_burn_45 : decode cX0_burn 45 = .ok (.iload_n 3, 1) := by decide +kernel
theorem dX0_burn_46 : decode cX0_burn 46 = .ok (.iconst 1, 1) := by decide +kernel
theorem dX0_burn_47 : decode cX0_burn 47 = .ok (.iload 4, 2) := by decide +kernel
theorem dX0_burn_49 : decode cX0_burn 49 = .ok (.iload 5, 2) := by decide +kernel
theorem dX0_burn_51 : decode cX0_burn 51 = .ok (.isub, 1) := by decide +kernel
theorem dX0_burn_52 : decode cX0_burn 52 = .ok (.invokevirtual 31, 3) := by decide +kernel
theorem dX0_burn_55 : decode cX0_burn 55 = .ok (.iload_n 2, 1) := by decide +kernel
theorem dX0_burn_56 : decode cX0_burn 56 = .ok (.iload 5, 2) := by decide +kernel
theorem dX0_burn_58 : decode cX0_burn 58 = .ok (.isub, 1) := by decide +kernel
theorem dX0_burn_59 : decode cX0_burn 59 = .ok (.istore_n 2, 1) := by decide +kernel
theorem dX0_burn_60 : decode cX0_burn 60 = .ok (.iinc 3 1, 3) := by decide +kernel
theorem dX0_burn_63 : decode cX0_burn 63 = .ok (.goto (-56), 3) := by decide +kernel
theorem dX0_burn_66 : decode cX0_burn 66 = .ok (.iload_n 1, 1) := by decide +kernel
theorem dX0_burn_67 : decode cX0_burn 67 = .ok (.iload_n 2, 1) := by decide +kernel
theorem dX0_burn_68 : decode cX0_burn 68 = .ok (.isub, 1) := by decide +kernel
theorem dX0_burn_69 : decode cX0_burn 69 = .ok (.ireturn, 1) := by decide +kernel
theorem dX0_lowestIsBurned_0 : decode cX0_lowestIsBurned 0 = .ok (.aload_n 0, 1) := by decide +kernel
theorem dX0_lowestIsBurned_1 : decode cX0_lowestIsBurned 1 = .ok (.getfield 20, 3) := by decide +kernel
theorem dX0_lowestIsBurned_4 : decode cX0_lowestIsBurned 4 = .ok (.aload_n 0, 1) := by decide +kernel
theorem dX0_lowestIsBurned_5 : decode cX0_lowestIsBurned 5 = .ok (.getfield 14, 3) := by decide +kernel
theorem dX0_lowestIsBurned_8 : decode cX0_lowestIsBurned 8 = .ok (.getfield 24, 3) := by decide +kernel
theorem dX0_lowestIsBurned_11 : decode cX0_lowestIsBurned 11 = .ok (.if_icmp .ge 22, 3) := by decide +kernel
theorem dX0_lowestIsBurned_14 : decode cX0_lowestIsBurned 14 = .ok (.aload_n 0, 1) := by decide +kernel
theorem dX0_lowestIsBurned_15 : decode cX0_lowestIsBurned 15 = .ok (.getfield 14, 3) := by decide +kernel
theorem dX0_lowestIsBurned_18 : decode cX0_lowestIsBurned 18 = .ok (.aload_n 0, 1) := by decide +kernel
theorem dX0_lowestIsBurned_19 : decode cX0_lowestIsBurned 19 = .ok (.getfield 20, 3) := by decide +kernel
theorem dX0_lowestIsBurned_22 : decode cX0_lowestIsBurned 22 = .ok (.iconst 1, 1) := by decide +kernel
theorem dX0_lowestIsBurned_23 : decode cX0_lowestIsBurned 23 = .ok (.invokevirtual 35, 3) := by decide +kernel
theorem dX0_lowestIsBurned_26 : decode cX0_lowestIsBurned 26 = .ok (.ifCond .ne 7, 3) := by decide +kernel
theorem dX0_lowestIsBurned_29 : decode cX0_lowestIsBurned 29 = .ok (.iconst 1, 1) := by decide +kernel
theorem dX0_lowestIsBurned_30 : decode cX0_lowestIsBurned 30 = .ok (.goto 4, 3) := by decide +kernel
theorem dX0_lowestIsBurned_33 : decode cX0_lowestIsBurned 33 = .ok (.iconst 0, 1) := by decide +kernel
theorem dX0_lowestIsBurned_34 : decode cX0_lowestIsBurned 34 = .ok (.ireturn, 1) := by decide +kernel
theorem dX1_init_0 : decode cX1_init 0 = .ok (.aload_n 0, 1) := by decide +kernel
theorem dX1_init_1 : decode cX1_init 1 = .ok (.invokespecial 3, 3) := by decide +kernel
theorem dX1_init_4 : decode cX1_init 4 = .ok (.aload_n 0, 1) := by decide +kernel
theorem dX1_init_5 : decode cX1_init 5 = .ok (.iconst 0, 1) := by decide +kernel
theorem dX1_init_6 : decode cX1_init 6 = .ok (.putfield 9, 3) := by decide +kernel
theorem dX1_init_9 : decode cX1_init 9 = .ok (.aload_n 0, 1) := by decide +kernel
theorem dX1_init_10 : decode cX1_init 10 = .ok (.iconst 0, 1) := by decide +kernel
theorem dX1_init_11 : decode cX1_init 11 = .ok (.putfield 15, 3) := by decide +kernel
theorem dX1_init_14 : decode cX1_init 14 = .ok (.aload_n 0, 1) := by decide +kernel
theorem dX1_init_15 : decode cX1_init 15 = .ok (.iconst 0, 1) := by decide +kernel
theorem dX1_init_16 : decode cX1_init 16 = .ok (.putfield 18, 3) := by decide +kernel
theorem dX1_init_19 : decode cX1_init 19 = .ok (.aload_n 0, 1) := by decide +kernel
theorem dX1_init_20 : decode cX1_init 20 = .ok (.iconst 0, 1) := by decide +kernel
theorem dX1_init_21 : decode cX1_init 21 = .ok (.putfield 21, 3) := by decide +kernel
theorem dX1_init_24 : decode cX1_init 24 = .ok (.aload_n 0, 1) := by decide +kernel
theorem dX1_init_25 : decode cX1_init 25 = .ok (.iconst 0, 1) := by decide +kernel
theorem dX1_init_26 : decode cX1_init 26 = .ok (.putfield 24, 3) := by decide +kernel
theorem dX1_init_29 : decode cX1_init 29 = .ok (.aload_n 0, 1) := by decide +kernel
theorem dX1_init_30 : decode cX1_init 30 = .ok (.sipush 1000, 3) := by decide +kernel
theorem dX1_init_33 : decode cX1_init 33 = .ok (.putfield 27, 3) := by decide +kernel
theorem dX1_init_36 : decode cX1_init 36 = .ok (.aload_n 0, 1) := by decide +kernel
theorem dX1_init_37 : decode cX1_init 37 = .ok (.iconst 0, 1) := by decide +kernel
theorem dX1_init_38 : decode cX1_init 38 = .ok (.putfield 30, 3) := by decide +kernel
theorem dX1_init_41 : decode cX1_init 41 = .ok (.aload_n 0, 1) := by decide +kernel
theorem dX1_init_42 : decode cX1_init 42 = .ok (.iconst 0, 1) := by decide +kernel
theorem dX1_init_43 : decode cX1_init 43 = .ok (.putfield 33, 3) := by decide +kernel
theorem dX1_init_46 : decode cX1_init 46 = .ok (.aload_n 0, 1) := by decide +kernel
theorem dX1_init_47 : decode cX1_init 47 = .ok (.iconst 0, 1) := by decide +kernel
theorem dX1_init_48 : decode cX1_init 48 = .ok (.putfield 36, 3) := by decide +kernel
theorem dX1_init_51 : decode cX1_init 51 = .ok (.aload_n 0, 1) := by decide +kernel
theorem dX1_init_52 : decode cX1_init 52 = .ok (.iconst 0, 1) := by decide +kernel
theorem dX1_init_53 : decode cX1_init 53 = .ok (.putfield 39, 3) := by decide +kernel
theorem dX1_init_56 : decode cX1_init 56 = .ok (.return_, 1) := by decide +kernel
theorem dX1_blow_0 : decode cX1_blow 0 = .ok (.aload_n 0, 1) := by decide +kernel
theorem dX1_blow_1 : decode cX1_blow 1 = .ok (.iconst 0, 1) := by decide +kernel
theorem dX1_blow_2 : decode cX1_blow 2 = .ok (.putfield 21, 3) := by decide +kernel
theorem dX1_blow_5 : decode cX1_blow 5 = .ok (.aload_n 1, 1) := by decide +kernel
theorem dX1_blow_6 : decode cX1_blow 6 = .ok (.aload_n 0, 1) := by decide +kernel
theorem dX1_blow_7 : decode cX1_blow 7 = .ok (.getfield 9, 3) := by decide +kernel
theorem dX1_blow_10 : decode cX1_blow 10 = .ok (.invokevirtual 43, 3) := by decide +kernel
theorem dX1_blow_13 : decode cX1_blow 13 = .ok (.istore 4, 2) := by decide +kernel
theorem dX1_blow_15 : decode cX1_blow 15 = .ok (.aload_n 0, 1) := by decide +kernel
theorem dX1_blow_16 : decode cX1_blow 16 = .ok (.dup, 1) := by decide +kernel
theorem dX1_blow_17 : decode cX1_blow 17 = .ok (.getfield 33, 3) := by decide +kernel
theorem dX1_blow_20 : decode cX1_blow 20 = .ok (.iload 4, 2) := by decide +kernel
theorem dX1_blow_22 : decode cX1_blow 22 = .ok (.iadd, 1) := by decide +kernel
theorem dX1_blow_23 : decode cX1_blow 23 = .ok (.putfield 33, 3) := by decide +kernel
theorem dX1_blow_26 : decode cX1_blow 26 = .ok (.iconst 0, 1) := by decide +kernel
theorem dX1_blow_27 : decode cX1_blow 27 = .ok (.istore 5, 2) := by decide +kernel
theorem dX1_blow_29 : decode cX1_blow 29 = .ok (.iload 5, 2) := by decide +kernel
theorem dX1_blow_31 : decode cX1_blow 31 = .ok (.bipush 12, 2) := by decide +kernel
theorem dX1_blow_33 : decode cX1_blow 33 = .ok (.if_icmp .ge 40, 3) := by decide +kernel
theorem dX1_blow_36 : decode cX1_blow 36 = .ok (.aload_n 1, 1) := by decide +kernel
theorem dX1_blow_37 : decode cX1_blow 37 = .ok (.invokevirtual 49, 3) := by decide +kernel
theorem dX1_blow_40 : decode cX1_blow 40 = .ok (.ifCond .eq 33, 3) := by decide +kernel
theorem dX1_blow_43 : decode cX1_blow 43 = .ok (.aload_n 0, 1) := by decide +kernel
theorem dX1_blow_44 : decode cX1_blow 44 = .ok (.aload_n 1, 1) := by decide +kernel
theorem dX1_blow_45 : decode cX1_blow 45 = .ok (.getfield 53, 3) := by decide +kernel
theorem dX1_blow_48 : decode cX1_blow 48 = .ok (.aload_n 1, 1) := by decide +kernel
theorem dX1_blow_49 : decode cX1_blow 49 = .ok (.getfield 57, 3) := by decide +kernel
theorem dX1_blow_52 : decode cX1_blow 52 = .ok (.aload_n 2, 1) := by decide +kernel
theorem dX1_blow_53 : decode cX1_blow 53 = .ok (.aload_n 3, 1) := by decide +kernel
theorem dX1_blow_54 : decode cX1_blow 54 = .ok (.invokevirtual 60, 3) := by decide +kernel
theorem dX1_blow_57 : decode cX1_blow 57 = .ok (.aload_n 1, 1) := by decide +kernel
theorem dX1_blow_58 : decode cX1_blow 58 = .ok (.dup, 1) := by decide +kernel
theorem dX1_blow_59 : decode cX1_blow 59 = .ok (.getfield 57, 3) := by decide +kernel
theorem dX1_blow_62 : decode cX1_blow 62 = .ok (.iconst 1, 1) := by decide +kernel
theorem dX1_blow_63 : decode cX1_blow 63 = .ok (.iadd, 1) := by decide +kernel
theorem dX1_blow_64 : decode cX1_blow 64 = .ok (.putfield 57, 3) := by decide +kernel
theorem dX1_blow_67 : decode cX1_blow 67 = .ok (.iinc 5 1, 3) := by decide +kernel
theorem dX1_blow_70 : decode cX1_blow 70 = .ok (.goto (-41), 3) := by decide +kernel
theorem dX1_blow_73 : decode cX1_blow 73 = .ok (.aload_n 0, 1) := by decide +kernel
theorem dX1_blow_74 : decode cX1_blow 74 = .ok (.iconst 0, 1) := by decide +kernel
theorem dX1_blow_75 : decode cX1_blow 75 = .ok (.sipush 1000, 3) := by decide +kernel
theorem dX1_blow_78 : decode cX1_blow 78 = .ok (.aload_n 0, 1) := by decide +kernel
theorem dX1_blow_79 : decode cX1_blow 79 = .ok (.getfield 15, 3) := by decide +kernel
theorem dX1_blow_82 : decode cX1_blow 82 = .ok (.bipush 8, 2) := by decide +kernel
theorem dX1_blow_84 : decode cX1_blow 84 = .ok (.iload 4, 2) := by decide +kernel
theorem dX1_blow_86 : decode cX1_blow 86 = .ok (.imul, 1) := by decide +kernel
theorem dX1_blow_87 : decode cX1_blow 87 = .ok (.iadd, 1) := by decide +kernel
theorem dX1_blow_88 : decode cX1_blow 88 = .ok (.bipush 40, 2) := by decide +kernel
theorem dX1_blow_90 : decode cX1_blow 90 = .ok (.isub, 1) := by decide +kernel
theorem dX1_blow_91 : decode cX1_blow 91 = .ok (.invokestatic 64, 3) := by decide +kernel
theorem dX1_blow_94 : decode cX1_blow 94 = .ok (.invokestatic 70, 3) := by decide +kernel
theorem dX1_blow_97 : decode cX1_blow 97 = .ok (.putfield 15, 3) := by decide +kernel
theorem dX1_blow_100 : decode cX1_blow 100 = .ok (.aload_n 0, 1) := by decide +kernel
theorem dX1_blow_101 : decode cX1_blow 101 = .ok (.dup, 1) := by decide +kernel
theorem dX1_blow_102 : decode cX1_blow 102 = .ok (.getfield 21, 3) := by decide +kernel
theorem dX1_blow_105 : decode cX1_blow 105 = .ok (.aload_n 2, 1) := by decide +kernel
theorem dX1_blow_106 : decode cX1_blow 106 = .ok (.invokevirtual 73, 3) := by decide +kernel
theorem dX1_blow_109 : decode cX1_blow 109 = .ok (.iadd, 1) := by decide +kernel
theorem dX1_blow_110 : decode cX1_blow 110 = .ok (.putfield 21, 3) := by decide +kernel
theorem dX1_blow_113 : decode cX1_blow 113 = .ok (.aload_n 0, 1) := by decide +kernel
theorem dX1_blow_114 : decode cX1_blow 114 = .ok (.dup, 1) := by decide +kernel
theorem dX1_blow_115 : decode cX1_blow 115 = .ok (.getfield 18, 3) := by decide +kernel
theorem dX1_blow_118 : decode cX1_blow 118 = .ok (.aload_n 0, 1) := by decide +kernel
theorem dX1_blow_119 : decode cX1_blow 119 = .ok (.getfield 21, 3) := by decide +kernel
theorem dX1_blow_122 : decode cX1_blow 122 = .ok (.iadd, 1) := by decide +kernel
theorem dX1_blow_123 : decode cX1_blow 123 = .ok (.putfield 18, 3) := by decide +kernel
theorem dX1_blow_126 : decode cX1_blow 126 = .ok (.aload_n 0, 1) := by decide +kernel
theorem dX1_blow_127 : decode cX1_blow 127 = .ok (.dup, 1) := by decide +kernel
theorem dX1_blow_128 : decode cX1_blow 128 = .ok (.getfield 24, 3) := by decide +kernel
theorem dX1_blow_131 : decode cX1_blow 131 = .ok (.aload_n 0, 1) := by decide +kernel
theorem dX1_blow_132 : decode cX1_blow 132 = .ok (.getfield 15, 3) := by decide +kernel
theorem dX1_blow_135 : decode cX1_blow 135 = .ok (.bipush 100, 2) := by decide +kernel
theorem dX1_blow_137 : decode cX1_blow 137 = .ok (.idiv, 1) := by decide +kernel
theorem dX1_blow_138 : decode cX1_blow 138 = .ok (.iadd, 1) := by decide +kernel
theorem dX1_blow_139 : decode cX1_blow 139 = .ok (.putfield 24, 3) := by decide +kernel
theorem dX1_blow_142 : decode cX1_blow 142 = .ok (.aload_n 0, 1) := by decide +kernel
theorem dX1_blow_143 : decode cX1_blow 143 = .ok (.dup, 1) := by decide +kernel
theorem dX1_blow_144 : decode cX1_blow 144 = .ok (.getfield 30, 3) := by decide +kernel
theorem dX1_blow_147 : decode cX1_blow 147 = .ok (.iconst 1, 1) := by decide +kernel
theorem dX1_blow_148 : decode cX1_blow 148 = .ok (.iadd, 1) := by decide +kernel
theorem dX1_blow_149 : decode cX1_blow 149 = .ok (.putfield 30, 3) := by decide +kernel
theorem dX1_blow_152 : decode cX1_blow 152 = .ok (.aload_n 0, 1) := by decide +kernel
theorem dX1_blow_153 : decode cX1_blow 153 = .ok (.aload_n 0, 1) := by decide +kernel
theorem dX1_blow_154 : decode cX1_blow 154 = .ok (.getfield 24, 3) := by decide +kernel
theorem dX1_blow_157 : decode cX1_blow 157 = .ok (.aload_n 0, 1) := by decide +kernel
theorem dX1_blow_158 : decode cX1_blow 158 = .ok (.getfield 27, 3) := by decide +kernel
theorem dX1_blow_161 : decode cX1_blow 161 = .ok (.if_icmp .lt 7, 3) := by decide +kernel
theorem dX1_blow_164 : decode cX1_blow 164 = .ok (.iconst 1, 1) := by decide +kernel
theorem dX1_blow_165 : decode cX1_blow 165 = .ok (.goto 4, 3) := by decide +kernel
theorem dX1_blow_168 : decode cX1_blow 168 = .ok (.iconst 0, 1) := by decide +kernel
theorem dX1_blow_169 : decode cX1_blow 169 = .ok (.putfield 39, 3) := by decide +kernel
theorem dX1_blow_172 : decode cX1_blow 172 = .ok (.return_, 1) := by decide +kernel
theorem dX1_bringDown_0 : decode cX1_bringDown 0 = .ok (.aload_n 1, 1) := by decide +kernel
theorem dX1_bringDown_1 : decode cX1_bringDown 1 = .ok (.iload_n 2, 1) := by decide +kernel
theorem dX1_bringDown_2 : decode cX1_bringDown 2 = .ok (.iconst 2, 1) := by decide +kernel
theorem dX1_bringDown_3 : decode cX1_bringDown 3 = .ok (.invokevirtual 79, 3) := by decide +kernel
theorem dX1_bringDown_6 : decode cX1_bringDown 6 = .ok (.istore 5, 2) := by decide +kernel
theorem dX1_bringDown_8 : decode cX1_bringDown 8 = .ok (.aload_n 1, 1) := by decide +kernel
theorem dX1_bringDown_9 : decode cX1_bringDown 9 = .ok (.iload_n 2, 1) := by decide +kernel
theorem dX1_bringDown_10 : decode cX1_bringDown 10 = .ok (.iconst 3, 1) := by decide +kernel
theorem dX1_bringDown_11 : decode cX1_bringDown 11 = .ok (.invokevirtual 79, 3) := by decide +kernel
theorem dX1_bringDown_14 : decode cX1_bringDown 14 = .ok (.istore 6, 2) := by decide +kernel
theorem dX1_bringDown_16 : decode cX1_bringDown 16 = .ok (.aload_n 1, 1) := by decide +kernel
theorem dX1_bringDown_17 : decode cX1_bringDown 17 = .ok (.iload_n 2, 1) := by decide +kernel
theorem dX1_bringDown_18 : decode cX1_bringDown 18 = .ok (.iconst 4, 1) := by decide +kernel
theorem dX1_bringDown_19 : decode cX1_bringDown 19 = .ok (.invokevirtual 79, 3) := by decide +kernel
theorem dX1_bringDown_22 : decode cX1_bringDown 22 = .ok (.istore 7, 2) := by decide +kernel
theorem dX1_bringDown_24 : decode cX1_bringDown 24 = .ok (.aload_n 0, 1) := by decide +kernel
theorem dX1_bringDown_25 : decode cX1_bringDown 25 = .ok (.getfield 15, 3) := by decide +kernel
theorem dX1_bringDown_28 : decode cX1_bringDown 28 = .ok (.bipush 10, 2) := by decide +kernel
theorem dX1_bringDown_30 : decode cX1_bringDown 30 = .ok (.iload 5, 2) := by decide +kernel
theorem dX1_bringDown_32 : decode cX1_bringDown 32 = .ok (.imul, 1) := by decide +kernel
theorem dX1_bringDown_33 : decode cX1_bringDown 33 = .ok (.if_icmp .lt 16, 3) := by decide +kernel
theorem dX1_bringDown_36 : decode cX1_bringDown 36 = .ok (.iload 7, 2) := by decide +kernel
theorem dX1_bringDown_38 : decode cX1_bringDown 38 = .ok (.ifCond .lt 11, 3) := by decide +kernel
theorem dX1_bringDown_41 : decode cX1_bringDown 41 = .ok (.iload 7, 2) := by decide +kernel
theorem dX1_bringDown_43 : decode cX1_bringDown 43 = .ok (.aload 4, 2) := by decide +kernel
theorem dX1_bringDown_45 : decode cX1_bringDown 45 = .ok (.arraylength, 1) := by decide +kernel
theorem dX1_bringDown_46 : decode cX1_bringDown 46 = .ok (.if_icmp .lt 35, 3) := by decide +kernel
theorem dX1_bringDown_49 : decode cX1_bringDown 49 = .ok (.aload_n 1, 1) := by decide +kernel
theorem dX1_bringDown_50 : decode cX1_bringDown 50 = .ok (.iload_n 2, 1) := by decide +kernel
theorem dX1_bringDown_51 : decode cX1_bringDown 51 = .ok (.iconst 0, 1) := by decide +kernel
theorem dX1_bringDown_52 : decode cX1_bringDown 52 = .ok (.iconst 2, 1) := by decide +kernel
theorem dX1_bringDown_53 : decode cX1_bringDown 53 = .ok (.invokevirtual 84, 3) := by decide +kernel
theorem dX1_bringDown_56 : decode cX1_bringDown 56 = .ok (.aload_n 0, 1) := by decide +kernel
theorem dX1_bringDown_57 : decode cX1_bringDown 57 = .ok (.dup, 1) := by decide +kernel
theorem dX1_bringDown_58 : decode cX1_bringDown 58 = .ok (.getfield 36, 3) := by decide +kernel
theorem dX1_bringDown_61 : decode cX1_bringDown 61 = .ok (.iconst 1, 1) := by decide +kernel
theorem dX1_bringDown_62 : decode cX1_bringDown 62 = .ok (.iadd, 1) := by decide +kernel
theorem dX1_bringDown_63 : decode cX1_bringDown 63 = .ok (.putfield 36, 3) := by decide +kernel
theorem dX1_bringDown_66 : decode cX1_bringDown 66 = .ok (.aload_n 0, 1) := by decide +kernel
theorem dX1_bringDown_67 : decode cX1_bringDown 67 = .ok (.dup, 1) := by decide +kernel
theorem dX1_bringDown_68 : decode cX1_bringDown 68 = .ok (.getfield 21, 3) := by decide +kernel
theorem dX1_bringDown_71 : decode cX1_bringDown 71 = .ok (.iload 5, 2) := by decide +kernel
theorem dX1_bringDown_73 : decode cX1_bringDown 73 = .ok (.iload 6, 2) := by decide +kernel
theorem dX1_bringDown_75 : decode cX1_bringDown 75 = .ok (.iadd, 1) := by decide +kernel
theorem dX1_bringDown_76 : decode cX1_bringDown 76 = .ok (.iadd, 1) := by decide +kernel
theorem dX1_bringDown_77 : decode cX1_bringDown 77 = .ok (.putfield 21, 3) := by decide +kernel
theorem dX1_bringDown_80 : decode cX1_bringDown 80 = .ok (.return_, 1) := by decide +kernel
theorem dX1_bringDown_81 : decode cX1_bringDown 81 = .ok (.iload 5, 2) := by decide +kernel
theorem dX1_bringDown_83 : decode cX1_bringDown 83 = .ok (.aload 4, 2) := by decide +kernel
theorem dX1_bringDown_85 : decode cX1_bringDown 85 = .ok (.iload 7, 2) := by decide +kernel
theorem dX1_bringDown_87 : decode cX1_bringDown 87 = .ok (.iaload, 1) := by decide +kernel
theorem dX1_bringDown_88 : decode cX1_bringDown 88 = .ok (.imul, 1) := by decide +kernel
theorem dX1_bringDown_89 : decode cX1_bringDown 89 = .ok (.bipush 100, 2) := by decide +kernel
theorem dX1_bringDown_91 : decode cX1_bringDown 91 = .ok (.idiv, 1) := by decide +kernel
theorem dX1_bringDown_92 : decode cX1_bringDown 92 = .ok (.istore 8, 2) := by decide +kernel
theorem dX1_bringDown_94 : decode cX1_bringDown 94 = .ok (.aload_n 0, 1) := by decide +kernel
theorem dX1_bringDown_95 : decode cX1_bringDown 95 = .ok (.iload 5, 2) := by decide +kernel
theorem dX1_bringDown_97 : decode cX1_bringDown 97 = .ok (.iload 6, 2) := by decide +kernel
theorem dX1_bringDown_99 : decode cX1_bringDown 99 = .ok (.invokevirtual 88, 3) := by decide +kernel
theorem dX1_bringDown_102 : decode cX1_bringDown 102 = .ok (.istore 9, 2) := by decide +kernel
theorem dX1_bringDown_104 : decode cX1_bringDown 104 = .ok (.aload_n 1, 1) := by decide +kernel
theorem dX1_bringDown_105 : decode cX1_bringDown 105 = .ok (.iload_n 2, 1) := by decide +kernel
theorem dX1_bringDown_106 : decode cX1_bringDown 106 = .ok (.iconst 0, 1) := by decide +kernel
theorem dX1_bringDown_107 : decode cX1_bringDown 107 = .ok (.iconst 1, 1) := by decide +kernel
theorem dX1_bringDown_108 : decode cX1_bringDown 108 = .ok (.invokevirtual 84, 3) := by decide +kernel
theorem dX1_bringDown_111 : decode cX1_bringDown 111 = .ok (.aload_n 1, 1) := by decide +kernel
theorem dX1_bringDown_112 : decode cX1_bringDown 112 = .ok (.iload_n 2, 1) := by decide +kernel
theorem dX1_bringDown_113 : decode cX1_bringDown 113 = .ok (.iconst 5, 1) := by decide +kernel
theorem dX1_bringDown_114 : decode cX1_bringDown 114 = .ok (.iload 9, 2) := by decide +kernel
theorem dX1_bringDown_116 : decode cX1_bringDown 116 = .ok (.invokevirtual 84, 3) := by decide +kernel
theorem dX1_bringDown_119 : decode cX1_bringDown 119 = .ok (.aload_n 1, 1) := by decide +kernel
theorem dX1_bringDown_120 : decode cX1_bringDown 120 = .ok (.iload_n 2, 1) := by decide +kernel
theorem dX1_bringDown_121 : decode cX1_bringDown 121 = .ok (.bipush 6, 2) := by decide +kernel
theorem dX1_bringDown_123 : decode cX1_bringDown 123 = .ok (.iload 8, 2) := by decide +kernel
theorem dX1_bringDown_125 : decode cX1_bringDown 125 = .ok (.invokevirtual 84, 3) := by decide +kernel
theorem dX1_bringDown_128 : decode cX1_bringDown 128 = .ok (.aload_n 3, 1) := by decide +kernel
theorem dX1_bringDown_129 : decode cX1_bringDown 129 = .ok (.iload_n 2, 1) := by decide +kernel
theorem dX1_bringDown_130 : decode cX1_bringDown 130 = .ok (.iload 9, 2) := by decide +kernel
theorem dX1_bringDown_132 : decode cX1_bringDown 132 = .ok (.iload 8, 2) := by decide +kernel
theorem dX1_bringDown_134 : decode cX1_bringDown 134 = .ok (.invokevirtual 91, 3) := by decide +kernel
theorem dX1_bringDown_137 : decode cX1_bringDown 137 = .ok (.aload_n 0, 1) := by decide +kernel
theorem dX1_bringDown_138 : decode cX1_bringDown 138 = .ok (.dup, 1) := by decide +kernel
theorem dX1_bringDown_139 : decode cX1_bringDown 139 = .ok (.getfield 21, 3) := by decide +kernel
theorem dX1_bringDown_142 : decode cX1_bringDown 142 = .ok (.iload 5, 2) := by decide +kernel
theorem dX1_bringDown_144 : decode cX1_bringDown 144 = .ok (.iload 8, 2) := by decide +kernel
theorem dX1_bringDown_146 : decode cX1_bringDown 146 = .ok (.isub, 1) := by decide +kernel
theorem dX1_bringDown_147 : decode cX1_bringDown 147 = .ok (.iload 6, 2) := by decide +kernel
theorem dX1_bringDown_149 : decode cX1_bringDown 149 = .ok (.iadd, 1) := by decide +kernel
theorem dX1_bringDown_150 : decode cX1_bringDown 150 = .ok (.iadd, 1) := by decide +kernel
theorem dX1_bringDown_151 : decode cX1_bringDown 151 = .ok (.putfield 21, 3) := by decide +kernel
theorem dX1_bringDown_154 : decode cX1_bringDown 154 = .ok (.aload_n 0, 1) := by decide +kernel
theorem dX1_bringDown_155 : decode cX1_bringDown 155 = .ok (.dup, 1) := by decide +kernel
theorem dX1_bringDown_156 : decode cX1_bringDown 156 = .ok (.getfield 15, 3) := by decide +kernel
theorem dX1_bringDown_159 : decode cX1_bringDown 159 = .ok (.iconst 5, 1) := by decide +kernel
theorem dX1_bringDown_160 : decode cX1_bringDown 160 = .ok (.iload 5, 2) := by decide +kernel
theorem dX1_bringDown_162 : decode cX1_bringDown 162 = .ok (.imul, 1) := by decide +kernel
theorem dX1_bringDown_163 : decode cX1_bringDown 163 = .ok (.isub, 1) := by decide +kernel
theorem dX1_bringDown_164 : decode cX1_bringDown 164 = .ok (.putfield 15, 3) := by decide +kernel
theorem dX1_bringDown_167 : decode cX1_bringDown 167 = .ok (.return_, 1) := by decide +kernel
theorem dX1_sortOf_0 : decode cX1_sortOf 0 = .ok (.iconst 0, 1) := by decide +kernel
theorem dX1_sortOf_1 : decode cX1_sortOf 1 = .ok (.istore_n 3, 1) := by decide +kernel
theorem dX1_sortOf_2 : decode cX1_sortOf 2 = .ok (.iconst 4, 1) := by decide +kernel
theorem dX1_sortOf_3 : decode cX1_sortOf 3 = .ok (.iload_n 2, 1) := by decide +kernel
theorem dX1_sortOf_4 : decode cX1_sortOf 4 = .ok (.imul, 1) := by decide +kernel
theorem dX1_sortOf_5 : decode cX1_sortOf 5 = .ok (.iload_n 1, 1) := by decide +kernel
theorem dX1_sortOf_6 : decode cX1_sortOf 6 = .ok (.if_icmp .lt 6, 3) := by decide +kernel
theorem dX1_sortOf_9 : decode cX1_sortOf 9 = .ok (.iinc 3 1, 3) := by decide +kernel
theorem dX1_sortOf_12 : decode cX1_sortOf 12 = .ok (.aload_n 0, 1) := by decide +kernel
theorem dX1_sortOf_13 : decode cX1_sortOf 13 = .ok (.getfield 15, 3) := by decide +kernel
theorem dX1_sortOf_16 : decode cX1_sortOf 16 = .ok (.sipush 400, 3) := by decide +kernel
theorem dX1_sortOf_19 : decode cX1_sortOf 19 = .ok (.if_icmp .lt 6, 3) := by decide +kernel
theorem dX1_sortOf_22 : decode cX1_sortOf 22 = .ok (.iinc 3 1, 3) := by decide +kernel
theorem dX1_sortOf_25 : decode cX1_sortOf 25 = .ok (.aload_n 0, 1) := by decide +kernel
theorem dX1_sortOf_26 : decode cX1_sortOf 26 = .ok (.getfield 15, 3) := by decide +kernel
theorem dX1_sortOf_29 : decode cX1_sortOf 29 = .ok (.sipush 700, 3) := by decide +kernel
theorem dX1_sortOf_32 : decode cX1_sortOf 32 = .ok (.if_icmp .lt 6, 3) := by decide +kernel
theorem dX1_sortOf_35 : decode cX1_sortOf 35 = .ok (.iinc 3 1, 3) := by decide +kernel
theorem dX1_sortOf_38 : decode cX1_sortOf 38 = .ok (.iload_n 3, 1) := by decide +kernel
theorem dX1_sortOf_39 : decode cX1_sortOf 39 = .ok (.ireturn, 1) := by decide +kernel
theorem dX2_init_0 : decode cX2_init 0 = .ok (.aload_n 0, 1) := by decide +kernel
theorem dX2_init_1 : decode cX2_init 1 = .ok (.invokespecial 3, 3) := by decide +kernel
theorem dX2_init_4 : decode cX2_init 4 = .ok (.aload_n 0, 1) := by decide +kernel
theorem dX2_init_5 : decode cX2_init 5 = .ok (.iconst 0, 1) := by decide +kernel
theorem dX2_init_6 : decode cX2_init 6 = .ok (.putfield 9, 3) := by decide +kernel
theorem dX2_init_9 : decode cX2_init 9 = .ok (.aload_n 0, 1) := by decide +kernel
theorem dX2_init_10 : decode cX2_init 10 = .ok (.bipush 100, 2) := by decide +kernel
theorem dX2_init_12 : decode cX2_init 12 = .ok (.putfield 15, 3) := by decide +kernel
theorem dX2_init_15 : decode cX2_init 15 = .ok (.aload_n 0, 1) := by decide +kernel
theorem dX2_init_16 : decode cX2_init 16 = .ok (.iconst 0, 1) := by decide +kernel
theorem dX2_init_17 : decode cX2_init 17 = .ok (.putfield 18, 3) := by decide +kernel
theorem dX2_init_20 : decode cX2_init 20 = .ok (.aload_n 0, 1) := by decide +kernel
theorem dX2_init_21 : decode cX2_init 21 = .ok (.iconst 0, 1) := by decide +kernel
theorem dX2_init_22 : decode cX2_init 22 = .ok (.putfield 21, 3) := by decide +kernel
theorem dX2_init_25 : decode cX2_init 25 = .ok (.aload_n 0, 1) := by decide +kernel
theorem dX2_init_26 : decode cX2_init 26 = .ok (.iconst (-1), 1) := by decide +kernel
theorem dX2_init_27 : decode cX2_init 27 = .ok (.putfield 24, 3) := by decide +kernel
theorem dX2_init_30 : decode cX2_init 30 = .ok (.aload_n 0, 1) := by decide +kernel
theorem dX2_init_31 : decode cX2_init 31 = .ok (.iconst (-1), 1) := by decide +kernel
theorem dX2_init_32 : decode cX2_init 32 = .ok (.putfield 27, 3) := by decide +kernel
theorem dX2_init_35 : decode cX2_init 35 = .ok (.aload_n 0, 1) := by decide +kernel
theorem dX2_init_36 : decode cX2_init 36 = .ok (.iconst (-1), 1) := by decide +kernel
theorem dX2_init_37 : decode cX2_init 37 = .ok (.putfield 30, 3) := by decide +kernel
theorem dX2_init_40 : decode cX2_init 40 = .ok (.return_, 1) := by decide +kernel
theorem dX2_pour_0 : decode cX2_pour 0 = .ok (.aload_n 0, 1) := by decide +kernel
theorem dX2_pour_1 : decode cX2_pour 1 = .ok (.dup, 1) := by decide +kernel
theorem dX2_pour_2 : decode cX2_pour 2 = .ok (.getfield 9, 3) := by decide +kernel
theorem dX2_pour_5 : decode cX2_pour 5 = .ok (.iload_n 3, 1) := by decide +kernel
theorem dX2_pour_6 : decode cX2_pour 6 = .ok (.iadd, 1) := by decide +kernel
theorem dX2_pour_7 : decode cX2_pour 7 = .ok (.putfield 9, 3) := by decide +kernel
theorem dX2_pour_10 : decode cX2_pour 10 = .ok (.aload_n 0, 1) := by decide +kernel
theorem dX2_pour_11 : decode cX2_pour 11 = .ok (.dup, 1) := by decide +kernel
theorem dX2_pour_12 : decode cX2_pour 12 = .ok (.getfield 18, 3) := by decide +kernel
theorem dX2_pour_15 : decode cX2_pour 15 = .ok (.iload_n 3, 1) := by decide +kernel
theorem dX2_pour_16 : decode cX2_pour 16 = .ok (.iadd, 1) := by decide +kernel
theorem dX2_pour_17 : decode cX2_pour 17 = .ok (.putfield 18, 3) := by decide +kernel
theorem dX2_pour_20 : decode cX2_pour 20 = .ok (.aload_n 0, 1) := by decide +kernel
theorem dX2_pour_21 : decode cX2_pour 21 = .ok (.aload_n 0, 1) := by decide +kernel
theorem dX2_pour_22 : decode cX2_pour 22 = .ok (.getfield 24, 3) := by decide +kernel
theorem dX2_pour_25 : decode cX2_pour 25 = .ok (.iconst (-1), 1) := by decide +kernel
theorem dX2_pour_26 : decode cX2_pour 26 = .ok (.if_icmp .ne 7, 3) := by decide +kernel
theorem dX2_pour_29 : decode cX2_pour 29 = .ok (.iload_n 2, 1) := by decide +kernel
theorem dX2_pour_30 : decode cX2_pour 30 = .ok (.goto 11, 3) := by decide +kernel
theorem dX2_pour_33 : decode cX2_pour 33 = .ok (.aload_n 0, 1) := by decide +kernel
theorem dX2_pour_34 : decode cX2_pour 34 = .ok (.getfield 30, 3) := by decide +kernel
theorem dX2_pour_37 : decode cX2_pour 37 = .ok (.iload_n 2, 1) := by decide +kernel
theorem dX2_pour_38 : decode cX2_pour 38 = .ok (.invokestatic 33, 3) := by decide +kernel
theorem dX2_pour_41 : decode cX2_pour 41 = .ok (.putfield 30, 3) := by decide +kernel
theorem dX2_pour_44 : decode cX2_pour 44 = .ok (.aload_n 0, 1) := by decide +kernel
theorem dX2_pour_45 : decode cX2_pour 45 = .ok (.getfield 24, 3) := by decide +kernel
theorem dX2_pour_48 : decode cX2_pour 48 = .ok (.iconst (-1), 1) := by decide +kernel
theorem dX2_pour_49 : decode cX2_pour 49 = .ok (.if_icmp .ne 8, 3) := by decide +kernel
theorem dX2_pour_52 : decode cX2_pour 52 = .ok (.aload_n 0, 1) := by decide +kernel
theorem dX2_pour_53 : decode cX2_pour 53 = .ok (.iload_n 1, 1) := by decide +kernel
theorem dX2_pour_54 : decode cX2_pour 54 = .ok (.putfield 24, 3) := by decide +kernel
theorem dX2_pour_57 : decode cX2_pour 57 = .ok (.aload_n 0, 1) := by decide +kernel
theorem dX2_pour_58 : decode cX2_pour 58 = .ok (.iload_n 1, 1) := by decide +kernel
theorem dX2_pour_59 : decode cX2_pour 59 = .ok (.putfield 27, 3) := by decide +kernel
theorem dX2_pour_62 : decode cX2_pour 62 = .ok (.return_, 1) := by decide +kernel
theorem dX2_spill_0 : decode cX2_spill 0 = .ok (.iconst 0, 1) := by decide +kernel
theorem dX2_spill_1 : decode cX2_spill 1 = .ok (.aload_n 0, 1) := by decide +kernel
theorem dX2_spill_2 : decode cX2_spill 2 = .ok (.getfield 9, 3) := by decide +kernel
theorem dX2_spill_5 : decode cX2_spill 5 = .ok (.aload_n 0, 1) := by decide +kernel
theorem dX2_spill_6 : decode cX2_spill 6 = .ok (.getfield 15, 3) := by decide +kernel
theorem dX2_spill_9 : decode cX2_spill 9 = .ok (.isub, 1) := by decide +kernel
theorem dX2_spill_10 : decode cX2_spill 10 = .ok (.invokestatic 39, 3) := by decide +kernel
theorem dX2_spill_13 : decode cX2_spill 13 = .ok (.istore_n 1, 1) := by decide +kernel
theorem dX2_spill_14 : decode cX2_spill 14 = .ok (.aload_n 0, 1) := by decide +kernel
theorem dX2_spill_15 : decode cX2_spill 15 = .ok (.dup, 1) := by decide +kernel
theorem dX2_spill_16 : decode cX2_spill 16 = .ok (.getfield 9, 3) := by decide +kernel
theorem dX2_spill_19 : decode cX2_spill 19 = .ok (.iload_n 1, 1) := by decide +kernel
theorem dX2_spill_20 : decode cX2_spill 20 = .ok (.isub, 1) := by decide +kernel
theorem dX2_spill_21 : decode cX2_spill 21 = .ok (.putfield 9, 3) := by decide +kernel
theorem dX2_spill_24 : decode cX2_spill 24 = .ok (.aload_n 0, 1) := by decide +kernel
theorem dX2_spill_25 : decode cX2_spill 25 = .ok (.dup, 1) := by decide +kernel
theorem dX2_spill_26 : decode cX2_spill 26 = .ok (.getfield 21, 3) := by decide +kernel
theorem dX2_spill_29 : decode cX2_spill 29 = .ok (.iload_n 1, 1) := by decide +kernel
theorem dX2_spill_30 : decode cX2_spill 30 = .ok (.iadd, 1) := by decide +kernel
theorem dX2_spill_31 : decode cX2_spill 31 = .ok (.putfield 21, 3) := by decide +kernel
theorem dX2_spill_34 : decode cX2_spill 34 = .ok (.iload_n 1, 1) := by decide +kernel
theorem dX2_spill_35 : decode cX2_spill 35 = .ok (.ireturn, 1) := by decide +kernel
theorem dX2_empty_0 : decode cX2_empty 0 = .ok (.aload_n 0, 1) := by decide +kernel
theorem dX2_empty_1 : decode cX2_empty 1 = .ok (.iconst 0, 1) := by decide +kernel
theorem dX2_empty_2 : decode cX2_empty 2 = .ok (.putfield 9, 3) := by decide +kernel
theorem dX2_empty_5 : decode cX2_empty 5 = .ok (.aload_n 0, 1) := by decide +kernel
theorem dX2_empty_6 : decode cX2_empty 6 = .ok (.iconst (-1), 1) := by decide +kernel
theorem dX2_empty_7 : decode cX2_empty 7 = .ok (.putfield 24, 3) := by decide +kernel
theorem dX2_empty_10 : decode cX2_empty 10 = .ok (.aload_n 0, 1) := by decide +kernel
theorem dX2_empty_11 : decode cX2_empty 11 = .ok (.iconst (-1), 1) := by decide +kernel
theorem dX2_empty_12 : decode cX2_empty 12 = .ok (.putfield 27, 3) := by decide +kernel
theorem dX2_empty_15 : decode cX2_empty 15 = .ok (.aload_n 0, 1) := by decide +kernel
theorem dX2_empty_16 : decode cX2_empty 16 = .ok (.iconst (-1), 1) := by decide +kernel
theorem dX2_empty_17 : decode cX2_empty 17 = .ok (.putfield 30, 3) := by decide +kernel
theorem dX2_empty_20 : decode cX2_empty 20 = .ok (.return_, 1) := by decide +kernel
theorem dX3_init_0 : decode cX3_init 0 = .ok (.aload_n 0, 1) := by decide +kernel
theorem dX3_init_1 : decode cX3_init 1 = .ok (.invokespecial 3, 3) := by decide +kernel
theorem dX3_init_4 : decode cX3_init 4 = .ok (.aload_n 0, 1) := by decide +kernel
theorem dX3_init_5 : decode cX3_init 5 = .ok (.bipush 6, 2) := by decide +kernel
theorem dX3_init_7 : decode cX3_init 7 = .ok (.newarray .int, 2) := by decide +kernel
theorem dX3_init_9 : decode cX3_init 9 = .ok (.putfield 9, 3) := by decide +kernel
theorem dX3_init_12 : decode cX3_init 12 = .ok (.aload_n 0, 1) := by decide +kernel
theorem dX3_init_13 : decode cX3_init 13 = .ok (.bipush 6, 2) := by decide +kernel
theorem dX3_init_15 : decode cX3_init 15 = .ok (.newarray .int, 2) := by decide +kernel
theorem dX3_init_17 : decode cX3_init 17 = .ok (.putfield 15, 3) := by decide +kernel
theorem dX3_init_20 : decode cX3_init 20 = .ok (.aload_n 0, 1) := by decide +kernel
theorem dX3_init_21 : decode cX3_init 21 = .ok (.bipush 7, 2) := by decide +kernel
theorem dX3_init_23 : decode cX3_init 23 = .ok (.newarray .int, 2) := by decide +kernel
theorem dX3_init_25 : decode cX3_init 25 = .ok (.putfield 18, 3) := by decide +kernel
theorem dX3_init_28 : decode cX3_init 28 = .ok (.aload_n 0, 1) := by decide +kernel
theorem dX3_init_29 : decode cX3_init 29 = .ok (.bipush 6, 2) := by decide +kernel
theorem dX3_init_31 : decode cX3_init 31 = .ok (.newarray .int, 2) := by decide +kernel
theorem dX3_init_33 : decode cX3_init 33 = .ok (.putfield 21, 3) := by decide +kernel
theorem dX3_init_36 : decode cX3_init 36 = .ok (.aload_n 0, 1) := by decide +kernel
theorem dX3_init_37 : decode cX3_init 37 = .ok (.bipush 6, 2) := by decide +kernel
theorem dX3_init_39 : decode cX3_init 39 = .ok (.newarray .int, 2) := by decide +kernel
theorem dX3_init_41 : decode cX3_init 41 = .ok (.putfield 24, 3) := by decide +kernel
theorem dX3_init_44 : decode cX3_init 44 = .ok (.aload_n 0, 1) := by decide +kernel
theorem dX3_init_45 : decode cX3_init 45 = .ok (.bipush 6, 2) := by decide +kernel
theorem dX3_init_47 : decode cX3_init 47 = .ok (.newarray .int, 2) := by decide +kernel
theorem dX3_init_49 : decode cX3_init 49 = .ok (.putfield 27, 3) := by decide +kernel
theorem dX3_init_52 : decode cX3_init 52 = .ok (.aload_n 0, 1) := by decide +kernel
theorem dX3_init_53 : decode cX3_init 53 = .ok (.iconst 0, 1) := by decide +kernel
theorem dX3_init_54 : decode cX3_init 54 = .ok (.putfield 30, 3) := by decide +kernel
theorem dX3_init_57 : decode cX3_init 57 = .ok (.aload_n 0, 1) := by decide +kernel
theorem dX3_init_58 : decode cX3_init 58 = .ok (.iconst (-1), 1) := by decide +kernel
theorem dX3_init_59 : decode cX3_init 59 = .ok (.putfield 34, 3) := by decide +kernel
theorem dX3_init_62 : decode cX3_init 62 = .ok (.aload_n 0, 1) := by decide +kernel
theorem dX3_init_63 : decode cX3_init 63 = .ok (.iconst 0, 1) := by decide +kernel
theorem dX3_init_64 : decode cX3_init 64 = .ok (.putfield 37, 3) := by decide +kernel
theorem dX3_init_67 : decode cX3_init 67 = .ok (.return_, 1) := by decide +kernel
theorem dX3_readMonths_0 : decode cX3_readMonths 0 = .ok (.aload_n 0, 1) := by decide +kernel
theorem dX3_readMonths_1 : decode cX3_readMonths 1 = .ok (.iconst 0, 1) := by decide +kernel
theorem dX3_readMonths_2 : decode cX3_readMonths 2 = .ok (.bipush 6, 2) := by decide +kernel
theorem dX3_readMonths_4 : decode cX3_readMonths 4 = .ok (.iload 4, 2) := by decide +kernel
theorem dX3_readMonths_6 : decode cX3_readMonths 6 = .ok (.invokestatic 40, 3) := by decide +kernel
theorem dX3_readMonths_9 : decode cX3_readMonths 9 = .ok (.invokestatic 46, 3) := by decide +kernel
theorem dX3_readMonths_12 : decode cX3_readMonths 12 = .ok (.putfield 30, 3) := by decide +kernel
theorem dX3_readMonths_15 : decode cX3_readMonths 15 = .ok (.aload_n 0, 1) := by decide +kernel
theorem dX3_readMonths_16 : decode cX3_readMonths 16 = .ok (.getfield 18, 3) := by decide +kernel
theorem dX3_readMonths_19 : decode cX3_readMonths 19 = .ok (.aload_n 0, 1) := by decide +kernel
theorem dX3_readMonths_20 : decode cX3_readMonths 20 = .ok (.getfield 30, 3) := by decide +kernel
theorem dX3_readMonths_23 : decode cX3_readMonths 23 = .ok (.iconst 0, 1) := by decide +kernel
theorem dX3_readMonths_24 : decode cX3_readMonths 24 = .ok (.iastore, 1) := by decide +kernel
theorem dX3_readMonths_25 : decode cX3_readMonths 25 = .ok (.aload_n 0, 1) := by decide +kernel
theorem dX3_readMonths_26 : decode cX3_readMonths 26 = .ok (.getfield 30, 3) := by decide +kernel
theorem dX3_readMonths_29 : decode cX3_readMonths 29 = .ok (.iconst 1, 1) := by decide +kernel
theorem dX3_readMonths_30 : decode cX3_readMonths 30 = .ok (.isub, 1) := by decide +kernel
theorem dX3_readMonths_31 : decode cX3_readMonths 31 = .ok (.istore 5, 2) := by decide +kernel
theorem dX3_readMonths_33 : decode cX3_readMonths 33 = .ok (.iload 5, 2) := by decide +kernel
theorem dX3_readMonths_35 : decode cX3_readMonths 35 = .ok (.ifCond .lt 109, 3) := by decide +kernel
theorem dX3_readMonths_38 : decode cX3_readMonths 38 = .ok (.iload_n 3, 1) := by decide +kernel
theorem dX3_readMonths_39 : decode cX3_readMonths 39 = .ok (.iload 5, 2) := by decide +kernel
theorem dX3_readMonths_41 : decode cX3_readMonths 41 = .ok (.iadd, 1) := by decide +kernel
theorem dX3_readMonths_42 : decode cX3_readMonths 42 = .ok (.bipush 12, 2) := by decide +kernel
theorem dX3_readMonths_44 : decode cX3_readMonths 44 = .ok (.irem, 1) := by decide +kernel
theorem dX3_readMonths_45 : decode cX3_readMonths 45 = .ok (.istore 6, 2) := by decide +kernel
theorem dX3_readMonths_47 : decode cX3_readMonths 47 = .ok (.aload_n 0, 1) := by decide +kernel
theorem dX3_readMonths_48 : decode cX3_readMonths 48 = .ok (.getfield 9, 3) := by decide +kernel
theorem dX3_readMonths_51 : decode cX3_readMonths 51 = .ok (.iload 5, 2) := by decide +kernel
theorem dX3_readMonths_53 : decode cX3_readMonths 53 = .ok (.aload_n 1, 1) := by decide +kernel
theorem dX3_readMonths_54 : decode cX3_readMonths 54 = .ok (.iload 6, 2) := by decide +kernel
theorem dX3_readMonths_56 : decode cX3_readMonths 56 = .ok (.iconst 0, 1) := by decide +kernel
theorem dX3_readMonths_57 : decode cX3_readMonths 57 = .ok (.invokevirtual 49, 3) := by decide +kernel
theorem dX3_readMonths_60 : decode cX3_readMonths 60 = .ok (.iastore, 1) := by decide +kernel
theorem dX3_readMonths_61 : decode cX3_readMonths 61 = .ok (.aload_n 0, 1) := by decide +kernel
theorem dX3_readMonths_62 : decode cX3_readMonths 62 = .ok (.getfield 15, 3) := by decide +kernel
theorem dX3_readMonths_65 : decode cX3_readMonths 65 = .ok (.iload 5, 2) := by decide +kernel
theorem dX3_readMonths_67 : decode cX3_readMonths 67 = .ok (.aload_n 1, 1) := by decide +kernel
theorem dX3_readMonths_68 : decode cX3_readMonths 68 = .ok (.iload 6, 2) := by decide +kernel
theorem dX3_readMonths_70 : decode cX3_readMonths 70 = .ok (.iconst 1, 1) := by decide +kernel
theorem dX3_readMonths_71 : decode cX3_readMonths 71 = .ok (.invokevirtual 49, 3) := by decide +kernel
theorem dX3_readMonths_74 : decode cX3_readMonths 74 = .ok (.iastore, 1) := by decide +kernel
theorem dX3_readMonths_75 : decode cX3_readMonths 75 = .ok (.iconst 0, 1) := by decide +kernel
theorem dX3_readMonths_76 : decode cX3_readMonths 76 = .ok (.istore 7, 2) := by decide +kernel
theorem dX3_readMonths_78 : decode cX3_readMonths 78 = .ok (.iconst 0, 1) := by decide +kernel
theorem dX3_readMonths_79 : decode cX3_readMonths 79 = .ok (.istore 8, 2) := by decide +kernel
theorem dX3_readMonths_81 : decode cX3_readMonths 81 = .ok (.iload 8, 2) := by decide +kernel
theorem dX3_readMonths_83 : decode cX3_readMonths 83 = .ok (.iconst 5, 1) := by decide +kernel
theorem dX3_readMonths_84 : decode cX3_readMonths 84 = .ok (.if_icmp .ge 35, 3) := by decide +kernel
theorem dX3_readMonths_87 : decode cX3_readMonths 87 = .ok (.iload 8, 2) := by decide +kernel
theorem dX3_readMonths_89 : decode cX3_readMonths 89 = .ok (.aload_n 0, 1) := by decide +kernel
theorem dX3_readMonths_90 : decode cX3_readMonths 90 = .ok (.getfield 9, 3) := by decide +kernel
theorem dX3_readMonths_93 : decode cX3_readMonths 93 = .ok (.iload 5, 2) := by decide +kernel
theorem dX3_readMonths_95 : decode cX3_readMonths 95 = .ok (.iaload, 1) := by decide +kernel
theorem dX3_readMonths_96 : decode cX3_readMonths 96 = .ok (.if_icmp .gt 23, 3) := by decide +kernel
theorem dX3_readMonths_99 : decode cX3_readMonths 99 = .ok (.iload 7, 2) := by decide +kernel
theorem dX3_readMonths_101 : decode cX3_readMonths 101 = .ok (.aload_n 2, 1) := by decide +kernel
theorem dX3_readMonths_102 : decode cX3_readMonths 102 = .ok (.iload 8, 2) := by decide +kernel
theorem dX3_readMonths_104 : decode cX3_readMonths 104 = .ok (.iconst 0, 1) := by decide +kernel
theorem dX3_readMonths_105 : decode cX3_readMonths 105 = .ok (.invokevirtual 49, 3) := by decide +kernel
theorem dX3_readMonths_108 : decode cX3_readMonths 108 = .ok (.invokestatic 46, 3) := by decide +kernel
theorem dX3_readMonths_111 : decode cX3_readMonths 111 = .ok (.istore 7, 2) := by decide +kernel
theorem dX3_readMonths_113 : decode cX3_readMonths 113 = .ok (.iinc 8 1, 3) := by decide +kernel
theorem dX3_readMonths_116 : decode cX3_readMonths 116 = .ok (.goto (-35), 3) := by decide +kernel
theorem dX3_readMonths_119 : decode cX3_readMonths 119 = .ok (.aload_n 0, 1) := by decide +kernel
theorem dX3_readMonths_120 : decode cX3_readMonths 120 = .ok (.getfield 18, 3) := by decide +kernel
theorem dX3_readMonths_123 : decode cX3_readMonths 123 = .ok (.iload 5, 2) := by decide +kernel
theorem dX3_readMonths_125 : decode cX3_readMonths 125 = .ok (.aload_n 0, 1) := by decide +kernel
theorem dX3_readMonths_126 : decode cX3_readMonths 126 = .ok (.getfield 18, 3) := by decide +kernel
theorem dX3_readMonths_129 : decode cX3_readMonths 129 = .ok (.iload 5, 2) := by decide +kernel
theorem dX3_readMonths_131 : decode cX3_readMonths 131 = .ok (.iconst 1, 1) := by decide +kernel
theorem dX3_readMonths_132 : decode cX3_readMonths 132 = .ok (.iadd, 1) := by decide +kernel
theorem dX3_readMonths_133 : decode cX3_readMonths 133 = .ok (.iaload, 1) := by decide +kernel
theorem dX3_readMonths_134 : decode cX3_readMonths 134 = .ok (.iload 7, 2) := by decide +kernel
theorem dX3_readMonths_136 : decode cX3_readMonths 136 = .ok (.iadd, 1) := by decide +kernel
theorem dX3_readMonths_137 : decode cX3_readMonths 137 = .ok (.iastore, 1) := by decide +kernel
theorem dX3_readMonths_138 : decode cX3_readMonths 138 = .ok (.iinc 5 (-1), 3) := by decide +kernel
theorem dX3_readMonths_141 : decode cX3_readMonths 141 = .ok (.goto (-108), 3) := by decide +kernel
theorem dX3_readMonths_144 : decode cX3_readMonths 144 = .ok (.return_, 1) := by decide +kernel
theorem dX3_settle_0 : decode cX3_settle 0 = .ok (.aload_n 0, 1) := by decide +kernel
theorem dX3_settle_1 : decode cX3_settle 1 = .ok (.iconst (-1), 1) := by decide +kernel
theorem dX3_settle_2 : decode cX3_settle 2 = .ok (.putfield 34, 3) := by decide +kernel
theorem dX3_settle_5 : decode cX3_settle 5 = .ok (.aload_n 0, 1) := by decide +kernel
theorem dX3_settle_6 : decode cX3_settle 6 = .ok (.aload_n 1, 1) := by decide +kernel
theorem dX3_settle_7 : decode cX3_settle 7 = .ok (.iconst 0, 1) := by decide +kernel
theorem dX3_settle_8 : decode cX3_settle 8 = .ok (.iconst 0, 1) := by decide +kernel
theorem dX3_settle_9 : decode cX3_settle 9 = .ok (.iload_n 2, 1) := by decide +kernel
theorem dX3_settle_10 : decode cX3_settle 10 = .ok (.iload_n 3, 1) := by decide +kernel
theorem dX3_settle_11 : decode cX3_settle 11 = .ok (.invokestatic 54, 3) := by decide +kernel
theorem dX3_settle_14 : decode cX3_settle 14 = .ok (.aload_n 0, 1) := by decide +kernel
theorem dX3_settle_15 : decode cX3_settle 15 = .ok (.getfield 34, 3) := by decide +kernel
theorem dX3_settle_18 : decode cX3_settle 18 = .ok (.iconst (-1), 1) := by decide +kernel
theorem dX3_settle_19 : decode cX3_settle 19 = .ok (.if_icmp .ne 5, 3) := by decide +kernel
theorem dX3_settle_22 : decode cX3_settle 22 = .ok (.iconst (-1), 1) := by decide +kernel
theorem dX3_settle_23 : decode cX3_settle 23 = .ok (.ireturn, 1) := by decide +kernel
theorem dX3_settle_24 : decode cX3_settle 24 = .ok (.aload_n 0, 1) := by decide +kernel
theorem dX3_settle_25 : decode cX3_settle 25 = .ok (.aload_n 0, 1) := by decide +kernel
theorem dX3_settle_26 : decode cX3_settle 26 = .ok (.getfield 30, 3) := by decide +kernel
theorem dX3_settle_29 : decode cX3_settle 29 = .ok (.putfield 37, 3) := by decide +kernel
theorem dX3_settle_32 : decode cX3_settle 32 = .ok (.iconst 0, 1) := by decide +kernel
theorem dX3_settle_33 : decode cX3_settle 33 = .ok (.istore 4, 2) := by decide +kernel
theorem dX3_settle_35 : decode cX3_settle 35 = .ok (.iload 4, 2) := by decide +kernel
theorem dX3_settle_37 : decode cX3_settle 37 = .ok (.aload_n 0, 1) := by decide +kernel
theorem dX3_settle_38 : decode cX3_settle 38 = .ok (.getfield 30, 3) := by decide +kernel
theorem dX3_settle_41 : decode cX3_settle 41 = .ok (.if_icmp .ge 23, 3) := by decide +kernel
theorem dX3_settle_44 : decode cX3_settle 44 = .ok (.aload_n 0, 1) := by decide +kernel
theorem dX3_settle_45 : decode cX3_settle 45 = .ok (.getfield 27, 3) := by decide +kernel
theorem dX3_settle_48 : decode cX3_settle 48 = .ok (.iload 4, 2) := by decide +kernel
theorem dX3_settle_50 : decode cX3_settle 50 = .ok (.aload_n 0, 1) := by decide +kernel
theorem dX3_settle_51 : decode cX3_settle 51 = .ok (.getfield 24, 3) := by decide +kernel
theorem dX3_settle_54 : decode cX3_settle 54 = .ok (.iload 4, 2) := by decide +kernel
theorem dX3_settle_56 : decode cX3_settle 56 = .ok (.iaload, 1) := by decide +kernel
theorem dX3_settle_57 : decode cX3_settle 57 = .ok (.iastore, 1) := by decide +kernel
theorem dX3_settle_58 : decode cX3_settle 58 = .ok (.iinc 4 1, 3) := by decide +kernel
theorem dX3_settle_61 : decode cX3_settle 61 = .ok (.goto (-26), 3) := by decide +kernel
theorem dX3_settle_64 : decode cX3_settle 64 = .ok (.aload_n 0, 1) := by decide +kernel
theorem dX3_settle_65 : decode cX3_settle 65 = .ok (.getfield 34, 3) := by decide +kernel
theorem dX3_settle_68 : decode cX3_settle 68 = .ok (.ireturn, 1) := by decide +kernel
theorem dX3_goOn_0 : decode cX3_goOn 0 = .ok (.iload_n 2, 1) := by decide +kernel
theorem dX3_goOn_1 : decode cX3_goOn 1 = .ok (.bipush 6, 2) := by decide +kernel
theorem dX3_goOn_3 : decode cX3_goOn 3 = .ok (.if_icmp .gt 18, 3) := by decide +kernel
theorem dX3_goOn_6 : decode cX3_goOn 6 = .ok (.iload_n 3, 1) := by decide +kernel
theorem dX3_goOn_7 : decode cX3_goOn 7 = .ok (.aload_n 0, 1) := by decide +kernel
theorem dX3_goOn_8 : decode cX3_goOn 8 = .ok (.getfield 18, 3) := by decide +kernel
theorem dX3_goOn_11 : decode cX3_goOn 11 = .ok (.iload_n 2, 1) := by decide +kernel
theorem dX3_goOn_12 : decode cX3_goOn 12 = .ok (.iaload, 1) := by decide +kernel
theorem dX3_goOn_13 : decode cX3_goOn 13 = .ok (.iadd, 1) := by decide +kernel
theorem dX3_goOn_14 : decode cX3_goOn 14 = .ok (.aload_n 0, 1) := by decide +kernel
theorem dX3_goOn_15 : decode cX3_goOn 15 = .ok (.getfield 34, 3) := by decide +kernel
theorem dX3_goOn_18 : decode cX3_goOn 18 = .ok (.if_icmp .gt 4, 3) := by decide +kernel
theorem dX3_goOn_21 : decode cX3_goOn 21 = .ok (.return_, 1) := by decide +kernel
theorem dX3_goOn_22 : decode cX3_goOn 22 = .ok (.iload_n 2, 1) := by decide +kernel
theorem dX3_goOn_23 : decode cX3_goOn 23 = .ok (.aload_n 0, 1) := by decide +kernel
theorem dX3_goOn_24 : decode cX3_goOn 24 = .ok (.getfield 30, 3) := by decide +kernel
theorem dX3_goOn_27 : decode cX3_goOn 27 = .ok (.if_icmp .lt 41, 3) := by decide +kernel
theorem dX3_goOn_30 : decode cX3_goOn 30 = .ok (.aload_n 0, 1) := by decide +kernel
theorem dX3_goOn_31 : decode cX3_goOn 31 = .ok (.iload_n 3, 1) := by decide +kernel
theorem dX3_goOn_32 : decode cX3_goOn 32 = .ok (.putfield 34, 3) := by decide +kernel
theorem dX3_goOn_35 : decode cX3_goOn 35 = .ok (.iconst 0, 1) := by decide +kernel
theorem dX3_goOn_36 : decode cX3_goOn 36 = .ok (.istore 6, 2) := by decide +kernel
theorem dX3_goOn_38 : decode cX3_goOn 38 = .ok (.iload 6, 2) := by decide +kernel
theorem dX3_goOn_40 : decode cX3_goOn 40 = .ok (.aload_n 0, 1) := by decide +kernel
theorem dX3_goOn_41 : decode cX3_goOn 41 = .ok (.getfield 30, 3) := by decide +kernel
theorem dX3_goOn_44 : decode cX3_goOn 44 = .ok (.if_icmp .ge 23, 3) := by decide +kernel
theorem dX3_goOn_47 : decode cX3_goOn 47 = .ok (.aload_n 0, 1) := by decide +kernel
theorem dX3_goOn_48 : decode cX3_goOn 48 = .ok (.getfield 24, 3) := by decide +kernel
theorem dX3_goOn_51 : decode cX3_goOn 51 = .ok (.iload 6, 2) := by decide +kernel
theorem dX3_goOn_53 : decode cX3_goOn 53 = .ok (.aload_n 0, 1) := by decide +kernel
theorem dX3_goOn_54 : decode cX3_goOn 54 = .ok (.getfield 21, 3) := by decide +kernel
theorem dX3_goOn_57 : decode cX3_goOn 57 = .ok (.iload 6, 2) := by decide +kernel
theorem dX3_goOn_59 : decode cX3_goOn 59 = .ok (.iaload, 1) := by decide +kernel
theorem dX3_goOn_60 : decode cX3_goOn 60 = .ok (.iastore, 1) := by decide +kernel
theorem dX3_goOn_61 : decode cX3_goOn 61 = .ok (.iinc 6 1, 3) := by decide +kernel
theorem dX3_goOn_64 : decode cX3_goOn 64 = .ok (.goto (-26), 3) := by decide +kernel
theorem dX3_goOn_67 : decode cX3_goOn 67 = .ok (.return_, 1) := by decide +kernel
theorem dX3_goOn_68 : decode cX3_goOn 68 = .ok (.iload 5, 2) := by decide +kernel
theorem dX3_goOn_70 : decode cX3_goOn 70 = .ok (.aload_n 0, 1) := by decide +kernel
theorem dX3_goOn_71 : decode cX3_goOn 71 = .ok (.getfield 15, 3) := by decide +kernel
theorem dX3_goOn_74 : decode cX3_goOn 74 = .ok (.iload_n 2, 1) := by decide +kernel
theorem dX3_goOn_75 : decode cX3_goOn 75 = .ok (.iaload, 1) := by decide +kernel
theorem dX3_goOn_76 : decode cX3_goOn 76 = .ok (.iadd, 1) := by decide +kernel
theorem dX3_goOn_77 : decode cX3_goOn 77 = .ok (.istore 6, 2) := by decide +kernel
theorem dX3_goOn_79 : decode cX3_goOn 79 = .ok (.iconst 0, 1) := by decide +kernel
theorem dX3_goOn_80 : decode cX3_goOn 80 = .ok (.istore 7, 2) := by decide +kernel
theorem dX3_goOn_82 : decode cX3_goOn 82 = .ok (.iload 7, 2) := by decide +kernel
theorem dX3_goOn_84 : decode cX3_goOn 84 = .ok (.iconst 5, 1) := by decide +kernel
theorem dX3_goOn_85 : decode cX3_goOn 85 = .ok (.if_icmp .ge 86, 3) := by decide +kernel
theorem dX3_goOn_88 : decode cX3_goOn 88 = .ok (.iload 7, 2) := by decide +kernel
theorem dX3_goOn_90 : decode cX3_goOn 90 = .ok (.aload_n 0, 1) := by decide +kernel
theorem dX3_goOn_91 : decode cX3_goOn 91 = .ok (.getfield 9, 3) := by decide +kernel
theorem dX3_goOn_94 : decode cX3_goOn 94 = .ok (.iload_n 2, 1) := by decide +kernel
theorem dX3_goOn_95 : decode cX3_goOn 95 = .ok (.iaload, 1) := by decide +kernel
theorem dX3_goOn_96 : decode cX3_goOn 96 = .ok (.if_icmp .gt 75, 3) := by decide +kernel
theorem dX3_goOn_99 : decode cX3_goOn 99 = .ok (.iload 4, 2) := by decide +kernel
theorem dX3_goOn_101 : decode cX3_goOn 101 = .ok (.aload_n 1, 1) := by decide +kernel
theorem dX3_goOn_102 : decode cX3_goOn 102 = .ok (.iload 7, 2) := by decide +kernel
theorem dX3_goOn_104 : decode cX3_goOn 104 = .ok (.iconst 1, 1) := by decide +kernel
theorem dX3_goOn_105 : decode cX3_goOn 105 = .ok (.invokevirtual 49, 3) := by decide +kernel
theorem dX3_goOn_108 : decode cX3_goOn 108 = .ok (.isub, 1) := by decide +kernel
theorem dX3_goOn_109 : decode cX3_goOn 109 = .ok (.istore 8, 2) := by decide +kernel
theorem dX3_goOn_111 : decode cX3_goOn 111 = .ok (.iload 6, 2) := by decide +kernel
theorem dX3_goOn_113 : decode cX3_goOn 113 = .ok (.aload_n 1, 1) := by decide +kernel
theorem dX3_goOn_114 : decode cX3_goOn 114 = .ok (.iload 7, 2) := by decide +kernel
theorem dX3_goOn_116 : decode cX3_goOn 116 = .ok (.iconst 2, 1) := by decide +kernel
theorem dX3_goOn_117 : decode cX3_goOn 117 = .ok (.invokevirtual 49, 3) := by decide +kernel
theorem dX3_goOn_120 : decode cX3_goOn 120 = .ok (.isub, 1) := by decide +kernel
theorem dX3_goOn_121 : decode cX3_goOn 121 = .ok (.istore 9, 2) := by decide +kernel
theorem dX3_goOn_123 : decode cX3_goOn 123 = .ok (.iload 8, 2) := by decide +kernel
theorem dX3_goOn_125 : decode cX3_goOn 125 = .ok (.ifCond .lt 40, 3) := by decide +kernel
theorem dX3_goOn_128 : decode cX3_goOn 128 = .ok (.iload 9, 2) := by decide +kernel
theorem dX3_goOn_130 : decode cX3_goOn 130 = .ok (.ifCond .ge 6, 3) := by decide +kernel
theorem dX3_goOn_133 : decode cX3_goOn 133 = .ok (.goto 32, 3) := by decide +kernel
theorem dX3_goOn_136 : decode cX3_goOn 136 = .ok (.aload_n 0, 1) := by decide +kernel
theorem dX3_goOn_137 : decode cX3_goOn 137 = .ok (.getfield 21, 3) := by decide +kernel
theorem dX3_goOn_140 : decode cX3_goOn 140 = .ok (.iload_n 2, 1) := by decide +kernel
theorem dX3_goOn_141 : decode cX3_goOn 141 = .ok (.iload 7, 2) := by decide +kernel
theorem dX3_goOn_143 : decode cX3_goOn 143 = .ok (.iastore, 1) := by decide +kernel
theorem dX3_goOn_144 : decode cX3_goOn 144 = .ok (.aload_n 0, 1) := by decide +kernel
theorem dX3_goOn_145 : decode cX3_goOn 145 = .ok (.aload_n 1, 1) := by decide +kernel
theorem dX3_goOn_146 : decode cX3_goOn 146 = .ok (.iload_n 2, 1) := by decide +kernel
theorem dX3_goOn_147 : decode cX3_goOn 147 = .ok (.iconst 1, 1) := by decide +kernel
theorem dX3_goOn_148 : decode cX3_goOn 148 = .ok (.iadd, 1) := by decide +kernel
theorem dX3_goOn_149 : decode cX3_goOn 149 = .ok (.iload_n 3, 1) := by decide +kernel
theorem dX3_goOn_150 : decode cX3_goOn 150 = .ok (.aload_n 1, 1) := by decide +kernel
theorem dX3_goOn_151 : decode cX3_goOn 151 = .ok (.iload 7, 2) := by decide +kernel
theorem dX3_goOn_153 : decode cX3_goOn 153 = .ok (.iconst 0, 1) := by decide +kernel
theorem dX3_goOn_154 : decode cX3_goOn 154 = .ok (.invokevirtual 49, 3) := by decide +kernel
theorem dX3_goOn_157 : decode cX3_goOn 157 = .ok (.iadd, 1) := by decide +kernel
theorem dX3_goOn_158 : decode cX3_goOn 158 = .ok (.iload 8, 2) := by decide +kernel
theorem dX3_goOn_160 : decode cX3_goOn 160 = .ok (.iload 9, 2) := by decide +kernel
theorem dX3_goOn_162 : decode cX3_goOn 162 = .ok (.invokestatic 54, 3) := by decide +kernel
theorem dX3_goOn_165 : decode cX3_goOn 165 = .ok (.iinc 7 1, 3) := by decide +kernel
theorem dX3_goOn_168 : decode cX3_goOn 168 = .ok (.goto (-86), 3) := by decide +kernel
theorem dX3_goOn_171 : decode cX3_goOn 171 = .ok (.return_, 1) := by decide +kernel
theorem dX4_init_0 : decode cX4_init 0 = .ok (.aload_n 0, 1) := by decide +kernel
theorem dX4_init_1 : decode cX4_init 1 = .ok (.invokespecial 3, 3) := by decide +kernel
theorem dX4_init_4 : decode cX4_init 4 = .ok (.aload_n 0, 1) := by decide +kernel
theorem dX4_init_5 : decode cX4_init 5 = .ok (.bipush 8, 2) := by decide +kernel
theorem dX4_init_7 : decode cX4_init 7 = .ok (.newarray .int, 2) := by decide +kernel
theorem dX4_init_9 : decode cX4_init 9 = .ok (.putfield 9, 3) := by decide +kernel
theorem dX4_init_12 : decode cX4_init 12 = .ok (.aload_n 0, 1) := by decide +kernel
theorem dX4_init_13 : decode cX4_init 13 = .ok (.bipush 8, 2) := by decide +kernel
theorem dX4_init_15 : decode cX4_init 15 = .ok (.newarray .int, 2) := by decide +kernel
theorem dX4_init_17 : decode cX4_init 17 = .ok (.putfield 15, 3) := by decide +kernel
theorem dX4_init_20 : decode cX4_init 20 = .ok (.aload_n 0, 1) := by decide +kernel
theorem dX4_init_21 : decode cX4_init 21 = .ok (.bipush 8, 2) := by decide +kernel
theorem dX4_init_23 : decode cX4_init 23 = .ok (.newarray .int, 2) := by decide +kernel
theorem dX4_init_25 : decode cX4_init 25 = .ok (.putfield 18, 3) := by decide +kernel
theorem dX4_init_28 : decode cX4_init 28 = .ok (.aload_n 0, 1) := by decide +kernel
theorem dX4_init_29 : decode cX4_init 29 = .ok (.bipush 8, 2) := by decide +kernel
theorem dX4_init_31 : decode cX4_init 31 = .ok (.newarray .int, 2) := by decide +kernel
theorem dX4_init_33 : decode cX4_init 33 = .ok (.putfield 21, 3) := by decide +kernel
theorem dX4_init_36 : decode cX4_init 36 = .ok (.aload_n 0, 1) := by decide +kernel
theorem dX4_init_37 : decode cX4_init 37 = .ok (.bipush 8, 2) := by decide +kernel
theorem dX4_init_39 : decode cX4_init 39 = .ok (.newarray .int, 2) := by decide +kernel
theorem dX4_init_41 : decode cX4_init 41 = .ok (.putfield 24, 3) := by decide +kernel
theorem dX4_init_44 : decode cX4_init 44 = .ok (.aload_n 0, 1) := by decide +kernel
theorem dX4_init_45 : decode cX4_init 45 = .ok (.bipush 9, 2) := by decide +kernel
theorem dX4_init_47 : decode cX4_init 47 = .ok (.newarray .int, 2) := by decide +kernel
theorem dX4_init_49 : decode cX4_init 49 = .ok (.putfield 27, 3) := by decide +kernel
theorem dX4_init_52 : decode cX4_init 52 = .ok (.aload_n 0, 1) := by decide +kernel
theorem dX4_init_53 : decode cX4_init 53 = .ok (.iconst 3, 1) := by decide +kernel
theorem dX4_init_54 : decode cX4_init 54 = .ok (.newarray .int, 2) := by decide +kernel
theorem dX4_init_56 : decode cX4_init 56 = .ok (.putfield 30, 3) := by decide +kernel
theorem dX4_init_59 : decode cX4_init 59 = .ok (.aload_n 0, 1) := by decide +kernel
theorem dX4_init_60 : decode cX4_init 60 = .ok (.iconst 0, 1) := by decide +kernel
theorem dX4_init_61 : decode cX4_init 61 = .ok (.putfield 33, 3) := by decide +kernel
theorem dX4_init_64 : decode cX4_init 64 = .ok (.aload_n 0, 1) := by decide +kernel
theorem dX4_init_65 : decode cX4_init 65 = .ok (.iconst 0, 1) := by decide +kernel
theorem dX4_init_66 : decode cX4_init 66 = .ok (.putfield 37, 3) := by decide +kernel
theorem dX4_init_69 : decode cX4_init 69 = .ok (.return_, 1) := by decide +kernel
theorem dX4_settle_0 : decode cX4_settle 0 = .ok (.aload_n 0, 1) := by decide +kernel
theorem dX4_settle_1 : decode cX4_settle 1 = .ok (.aload_n 1, 1) := by decide +kernel
theorem dX4_settle_2 : decode cX4_settle 2 = .ok (.invokevirtual 40, 3) := by decide +kernel
theorem dX4_settle_5 : decode cX4_settle 5 = .ok (.iconst 0, 1) := by decide +kernel
theorem dX4_settle_6 : decode cX4_settle 6 = .ok (.istore_n 3, 1) := by decide +kernel
theorem dX4_settle_7 : decode cX4_settle 7 = .ok (.iload_n 3, 1) := by decide +kernel
theorem dX4_settle_8 : decode cX4_settle 8 = .ok (.iconst 3, 1) := by decide +kernel
theorem dX4_settle_9 : decode cX4_settle 9 = .ok (.if_icmp .ge 21, 3) := by decide +kernel
theorem dX4_settle_12 : decode cX4_settle 12 = .ok (.aload_n 0, 1) := by decide +kernel
theorem dX4_settle_13 : decode cX4_settle 13 = .ok (.getfield 30, 3) := by decide +kernel
theorem dX4_settle_16 : decode cX4_settle 16 = .ok (.iload_n 3, 1) := by decide +kernel
theorem dX4_settle_17 : decode cX4_settle 17 = .ok (.aload_n 2, 1) := by decide +kernel
theorem dX4_settle_18 : decode cX4_settle 18 = .ok (.iload_n 3, 1) := by decide +kernel
theorem dX4_settle_19 : decode cX4_settle 19 = .ok (.iconst 1, 1) := by decide +kernel
theorem dX4_settle_20 : decode cX4_settle 20 = .ok (.invokevirtual 44, 3) := by decide +kernel
theorem dX4_settle_23 : decode cX4_settle 23 = .ok (.iastore, 1) := by decide +kernel
theorem dX4_settle_24 : decode cX4_settle 24 = .ok (.iinc 3 1, 3) := by decide +kernel
theorem dX4_settle_27 : decode cX4_settle 27 = .ok (.goto (-20), 3) := by decide +kernel
theorem dX4_settle_30 : decode cX4_settle 30 = .ok (.aload_n 0, 1) := by decide +kernel
theorem dX4_settle_31 : decode cX4_settle 31 = .ok (.aload_n 2, 1) := by decide +kernel
theorem dX4_settle_32 : decode cX4_settle 32 = .ok (.invokevirtual 50, 3) := by decide +kernel
theorem dX4_settle_35 : decode cX4_settle 35 = .ok (.aload_n 0, 1) := by decide +kernel
theorem dX4_settle_36 : decode cX4_settle 36 = .ok (.iconst (-1), 1) := by decide +kernel
theorem dX4_settle_37 : decode cX4_settle 37 = .ok (.putfield 37, 3) := by decide +kernel
theorem dX4_settle_40 : decode cX4_settle 40 = .ok (.aload_n 0, 1) := by decide +kernel
theorem dX4_settle_41 : decode cX4_settle 41 = .ok (.aload_n 2, 1) := by decide +kernel
theorem dX4_settle_42 : decode cX4_settle 42 = .ok (.iconst 0, 1) := by decide +kernel
theorem dX4_settle_43 : decode cX4_settle 43 = .ok (.iconst 0, 1) := by decide +kernel
theorem dX4_settle_44 : decode cX4_settle 44 = .ok (.invokestatic 53, 3) := by decide +kernel
theorem dX4_settle_47 : decode cX4_settle 47 = .ok (.return_, 1) := by decide +kernel
theorem dX4_readPigs_0 : decode cX4_readPigs 0 = .ok (.aload_n 0, 1) := by decide +kernel
theorem dX4_readPigs_1 : decode cX4_readPigs 1 = .ok (.iconst 0, 1) := by decide +kernel
theorem dX4_readPigs_2 : decode cX4_readPigs 2 = .ok (.putfield 33, 3) := by decide +kernel
theorem dX4_readPigs_5 : decode cX4_readPigs 5 = .ok (.iconst 0, 1) := by decide +kernel
theorem dX4_readPigs_6 : decode cX4_readPigs 6 = .ok (.istore_n 2, 1) := by decide +kernel
theorem dX4_readPigs_7 : decode cX4_readPigs 7 = .ok (.iload_n 2, 1) := by decide +kernel
theorem dX4_readPigs_8 : decode cX4_readPigs 8 = .ok (.aload_n 1, 1) := by decide +kernel
theorem dX4_readPigs_9 : decode cX4_readPigs 9 = .ok (.getfield 57, 3) := by decide +kernel
theorem dX4_readPigs_12 : decode cX4_readPigs 12 = .ok (.if_icmp .ge 83, 3) := by decide +kernel
theorem dX4_readPigs_15 : decode cX4_readPigs 15 = .ok (.aload_n 0, 1) := by decide +kernel
theorem dX4_readPigs_16 : decode cX4_readPigs 16 = .ok (.getfield 33, 3) := by decide +kernel
theorem dX4_readPigs_19 : decode cX4_readPigs 19 = .ok (.bipush 8, 2) := by decide +kernel
theorem dX4_readPigs_21 : decode cX4_readPigs 21 = .ok (.if_icmp .ge 74, 3) := by decide +kernel
theorem dX4_readPigs_24 : decode cX4_readPigs 24 = .ok (.aload_n 1, 1) := by decide +kernel
theorem dX4_readPigs_25 : decode cX4_readPigs 25 = .ok (.iload_n 2, 1) := by decide +kernel
theorem dX4_readPigs_26 : decode cX4_readPigs 26 = .ok (.iconst 5, 1) := by decide +kernel
theorem dX4_readPigs_27 : decode cX4_readPigs 27 = .ok (.invokevirtual 44, 3) := by decide +kernel
theorem dX4_readPigs_30 : decode cX4_readPigs 30 = .ok (.iconst (-1), 1) := by decide +kernel
theorem dX4_readPigs_31 : decode cX4_readPigs 31 = .ok (.if_icmp .eq 6, 3) := by decide +kernel
theorem dX4_readPigs_34 : decode cX4_readPigs 34 = .ok (.goto 55, 3) := by decide +kernel
theorem dX4_readPigs_37 : decode cX4_readPigs 37 = .ok (.aload_n 0, 1) := by decide +kernel
theorem dX4_readPigs_38 : decode cX4_readPigs 38 = .ok (.getfield 9, 3) := by decide +kernel
theorem dX4_readPigs_41 : decode cX4_readPigs 41 = .ok (.aload_n 0, 1) := by decide +kernel
theorem dX4_readPigs_42 : decode cX4_readPigs 42 = .ok (.getfield 33, 3) := by decide +kernel
theorem dX4_readPigs_45 : decode cX4_readPigs 45 = .ok (.iload_n 2, 1) := by decide +kernel
theorem dX4_readPigs_46 : decode cX4_readPigs 46 = .ok (.iastore, 1) := by decide +kernel
theorem dX4_readPigs_47 : decode cX4_readPigs 47 = .ok (.aload_n 0, 1) := by decide +kernel
theorem dX4_readPigs_48 : decode cX4_readPigs 48 = .ok (.getfield 15, 3) := by decide +kernel
theorem dX4_readPigs_51 : decode cX4_readPigs 51 = .ok (.aload_n 0, 1) := by decide +kernel
theorem dX4_readPigs_52 : decode cX4_readPigs 52 = .ok (.getfield 33, 3) := by decide +kernel
theorem dX4_readPigs_55 : decode cX4_readPigs 55 = .ok (.aload_n 1, 1) := by decide +kernel
theorem dX4_readPigs_56 : decode cX4_readPigs 56 = .ok (.iload_n 2, 1) := by decide +kernel
theorem dX4_readPigs_57 : decode cX4_readPigs 57 = .ok (.iconst 0, 1) := by decide +kernel
theorem dX4_readPigs_58 : decode cX4_readPigs 58 = .ok (.invokevirtual 44, 3) := by decide +kernel
theorem dX4_readPigs_61 : decode cX4_readPigs 61 = .ok (.iastore, 1) := by decide +kernel
theorem dX4_readPigs_62 : decode cX4_readPigs 62 = .ok (.aload_n 0, 1) := by decide +kernel
theorem dX4_readPigs_63 : decode cX4_readPigs 63 = .ok (.getfield 18, 3) := by decide +kernel
theorem dX4_readPigs_66 : decode cX4_readPigs 66 = .ok (.aload_n 0, 1) := by decide +kernel
theorem dX4_readPigs_67 : decode cX4_readPigs 67 = .ok (.getfield 33, 3) := by decide +kernel
theorem dX4_readPigs_70 : decode cX4_readPigs 70 = .ok (.iconst 1, 1) := by decide +kernel
theorem dX4_readPigs_71 : decode cX4_readPigs 71 = .ok (.aload_n 1, 1) := by decide +kernel
theorem dX4_readPigs_72 : decode cX4_readPigs 72 = .ok (.iload_n 2, 1) := by decide +kernel
theorem dX4_readPigs_73 : decode cX4_readPigs 73 = .ok (.iconst 1, 1) := by decide +kernel
theorem dX4_readPigs_74 : decode cX4_readPigs 74 = .ok (.invokevirtual 44, 3) := by decide +kernel
theorem dX4_readPigs_77 : decode cX4_readPigs 77 = .ok (.ishl, 1) := by decide +kernel
theorem dX4_readPigs_78 : decode cX4_readPigs 78 = .ok (.iastore, 1) := by decide +kernel
theorem dX4_readPigs_79 : decode cX4_readPigs 79 = .ok (.aload_n 0, 1) := by decide +kernel
theorem dX4_readPigs_80 : decode cX4_readPigs 80 = .ok (.dup, 1) := by decide +kernel
theorem dX4_readPigs_81 : decode cX4_readPigs 81 = .ok (.getfield 33, 3) := by decide +kernel
theorem dX4_readPigs_84 : decode cX4_readPigs 84 = .ok (.iconst 1, 1) := by decide +kernel
theorem dX4_readPigs_85 : decode cX4_readPigs 85 = .ok (.iadd, 1) := by decide +kernel
theorem dX4_readPigs_86 : decode cX4_readPigs 86 = .ok (.putfield 33, 3) := by decide +kernel
theorem dX4_readPigs_89 : decode cX4_readPigs 89 = .ok (.iinc 2 1, 3) := by decide +kernel
theorem dX4_readPigs_92 : decode cX4_readPigs 92 = .ok (.goto (-85), 3) := by decide +kernel
theorem dX4_readPigs_95 : decode cX4_readPigs 95 = .ok (.return_, 1) := by decide +kernel
theorem dX4_readHopes_0 : decode cX4_readHopes 0 = .ok (.aload_n 0, 1) := by decide +kernel
theorem dX4_readHopes_1 : decode cX4_readHopes 1 = .ok (.getfield 27, 3) := by decide +kernel
theorem dX4_readHopes_4 : decode cX4_readHopes 4 = .ok (.aload_n 0, 1) := by decide +kernel
theorem dX4_readHopes_5 : decode cX4_readHopes 5 = .ok (.getfield 33, 3) := by decide +kernel
theorem dX4_readHopes_8 : decode cX4_readHopes 8 = .ok (.iconst 0, 1) := by decide +kernel
theorem dX4_readHopes_9 : decode cX4_readHopes 9 = .ok (.iastore, 1) := by decide +kernel
theorem dX4_readHopes_10 : decode cX4_readHopes 10 = .ok (.aload_n 0, 1) := by decide +kernel
theorem dX4_readHopes_11 : decode cX4_readHopes 11 = .ok (.getfield 33, 3) := by decide +kernel
theorem dX4_readHopes_14 : decode cX4_readHopes 14 = .ok (.iconst 1, 1) := by decide +kernel
theorem dX4_readHopes_15 : decode cX4_readHopes 15 = .ok (.isub, 1) := by decide +kernel
theorem dX4_readHopes_16 : decode cX4_readHopes 16 = .ok (.istore_n 2, 1) := by decide +kernel
theorem dX4_readHopes_17 : decode cX4_readHopes 17 = .ok (.iload_n 2, 1) := by decide +kernel
theorem dX4_readHopes_18 : decode cX4_readHopes 18 = .ok (.ifCond .lt 75, 3) := by decide +kernel
theorem dX4_readHopes_21 : decode cX4_readHopes 21 = .ok (.iconst 0, 1) := by decide +kernel
theorem dX4_readHopes_22 : decode cX4_readHopes 22 = .ok (.istore_n 3, 1) := by decide +kernel
theorem dX4_readHopes_23 : decode cX4_readHopes 23 = .ok (.iconst 0, 1) := by decide +kernel
theorem dX4_readHopes_24 : decode cX4_readHopes 24 = .ok (.istore 4, 2) := by decide +kernel
theorem dX4_readHopes_26 : decode cX4_readHopes 26 = .ok (.iload 4, 2) := by decide +kernel
theorem dX4_readHopes_28 : decode cX4_readHopes 28 = .ok (.aload_n 1, 1) := by decide +kernel
theorem dX4_readHopes_29 : decode cX4_readHopes 29 = .ok (.getfield 57, 3) := by decide +kernel
theorem dX4_readHopes_32 : decode cX4_readHopes 32 = .ok (.if_icmp .ge 32, 3) := by decide +kernel
theorem dX4_readHopes_35 : decode cX4_readHopes 35 = .ok (.aload_n 0, 1) := by decide +kernel
theorem dX4_readHopes_36 : decode cX4_readHopes 36 = .ok (.aload_n 1, 1) := by decide +kernel
theorem dX4_readHopes_37 : decode cX4_readHopes 37 = .ok (.iload 4, 2) := by decide +kernel
theorem dX4_readHopes_39 : decode cX4_readHopes 39 = .ok (.iload_n 2, 1) := by decide +kernel
theorem dX4_readHopes_40 : decode cX4_readHopes 40 = .ok (.invokevirtual 60, 3) := by decide +kernel
theorem dX4_readHopes_43 : decode cX4_readHopes 43 = .ok (.ifCond .eq 15, 3) := by decide +kernel
theorem dX4_readHopes_46 : decode cX4_readHopes 46 = .ok (.iload_n 3, 1) := by decide +kernel
theorem dX4_readHopes_47 : decode cX4_readHopes 47 = .ok (.aload_n 1, 1) := by decide +kernel
theorem dX4_readHopes_48 : decode cX4_readHopes 48 = .ok (.iload 4, 2) := by decide +kernel
theorem dX4_readHopes_50 : decode cX4_readHopes 50 = .ok (.iconst 2, 1) := by decide +kernel
theorem dX4_readHopes_51 : decode cX4_readHopes 51 = .ok (.invokevirtual 44, 3) := by decide +kernel
theorem dX4_readHopes_54 : decode cX4_readHopes 54 = .ok (.invokestatic 64, 3) := by decide +kernel
theorem dX4_readHopes_57 : decode cX4_readHopes 57 = .ok (.istore_n 3, 1) := by decide +kernel
theorem dX4_readHopes_58 : decode cX4_readHopes 58 = .ok (.iinc 4 1, 3) := by decide +kernel
theorem dX4_readHopes_61 : decode cX4_readHopes 61 = .ok (.goto (-35), 3) := by decide +kernel
theorem dX4_readHopes_64 : decode cX4_readHopes 64 = .ok (.aload_n 0, 1) := by decide +kernel
theorem dX4_readHopes_65 : decode cX4_readHopes 65 = .ok (.getfield 27, 3) := by decide +kernel
theorem dX4_readHopes_68 : decode cX4_readHopes 68 = .ok (.iload_n 2, 1) := by decide +kernel
theorem dX4_readHopes_69 : decode cX4_readHopes 69 = .ok (.aload_n 0, 1) := by decide +kernel
theorem dX4_readHopes_70 : decode cX4_readHopes 70 = .ok (.getfield 27, 3) := by decide +kernel
theorem dX4_readHopes_73 : decode cX4_readHopes 73 = .ok (.iload_n 2, 1) := by decide +kernel
theorem dX4_readHopes_74 : decode cX4_readHopes 74 = .ok (.iconst 1, 1) := by decide +kernel
theorem dX4_readHopes_75 : decode cX4_readHopes 75 = .ok (.iadd, 1) := by decide +kernel
theorem dX4_readHopes_76 : decode cX4_readHopes 76 = .ok (.iaload, 1) := by decide +kernel
theorem dX4_readHopes_77 : decode cX4_readHopes 77 = .ok (.iload_n 3, 1) := by decide +kernel
theorem dX4_readHopes_78 : decode cX4_readHopes 78 = .ok (.aload_n 0, 1) := by decide +kernel
theorem dX4_readHopes_79 : decode cX4_readHopes 79 = .ok (.getfield 15, 3) := by decide +kernel
theorem dX4_readHopes_82 : decode cX4_readHopes 82 = .ok (.iload_n 2, 1) := by decide +kernel
theorem dX4_readHopes_83 : decode cX4_readHopes 83 = .ok (.iaload, 1) := by decide +kernel
theorem dX4_readHopes_84 : decode cX4_readHopes 84 = .ok (.imul, 1) := by decide +kernel
theorem dX4_readHopes_85 : decode cX4_readHopes 85 = .ok (.iadd, 1) := by decide +kernel
theorem dX4_readHopes_86 : decode cX4_readHopes 86 = .ok (.iastore, 1) := by decide +kernel
theorem dX4_readHopes_87 : decode cX4_readHopes 87 = .ok (.iinc 2 (-1), 3) := by decide +kernel
theorem dX4_readHopes_90 : decode cX4_readHopes 90 = .ok (.goto (-73), 3) := by decide +kernel
theorem dX4_readHopes_93 : decode cX4_readHopes 93 = .ok (.return_, 1) := by decide +kernel
theorem dX4_canTake_0 : decode cX4_canTake 0 = .ok (.aload_n 1, 1) := by decide +kernel
theorem dX4_canTake_1 : decode cX4_canTake 1 = .ok (.iload_n 2, 1) := by decide +kernel
theorem dX4_canTake_2 : decode cX4_canTake 2 = .ok (.iconst 0, 1) := by decide +kernel
theorem dX4_canTake_3 : decode cX4_canTake 3 = .ok (.invokevirtual 44, 3) := by decide +kernel
theorem dX4_canTake_6 : decode cX4_canTake 6 = .ok (.aload_n 0, 1) := by decide +kernel
theorem dX4_canTake_7 : decode cX4_canTake 7 = .ok (.getfield 18, 3) := by decide +kernel
theorem dX4_canTake_10 : decode cX4_canTake 10 = .ok (.iload_n 3, 1) := by decide +kernel
theorem dX4_canTake_11 : decode cX4_canTake 11 = .ok (.iaload, 1) := by decide +kernel
theorem dX4_canTake_12 : decode cX4_canTake 12 = .ok (.iand, 1) := by decide +kernel
theorem dX4_canTake_13 : decode cX4_canTake 13 = .ok (.ifCond .eq 7, 3) := by decide +kernel
theorem dX4_canTake_16 : decode cX4_canTake 16 = .ok (.iconst 1, 1) := by decide +kernel
theorem dX4_canTake_17 : decode cX4_canTake 17 = .ok (.goto 4, 3) := by decide +kernel
theorem dX4_canTake_20 : decode cX4_canTake 20 = .ok (.iconst 0, 1) := by decide +kernel
theorem dX4_canTake_21 : decode cX4_canTake 21 = .ok (.istore 4, 2) := by decide +kernel
theorem dX4_canTake_23 : decode cX4_canTake 23 = .ok (.iload 4, 2) := by decide +kernel
theorem dX4_canTake_25 : decode cX4_canTake 25 = .ok (.ifCond .eq 22, 3) := by decide +kernel
theorem dX4_canTake_28 : decode cX4_canTake 28 = .ok (.aload_n 0, 1) := by decide +kernel
theorem dX4_canTake_29 : decode cX4_canTake 29 = .ok (.getfield 15, 3) := by decide +kernel
theorem dX4_canTake_32 : decode cX4_canTake 32 = .ok (.iload_n 3, 1) := by decide +kernel
theorem dX4_canTake_33 : decode cX4_canTake 33 = .ok (.iaload, 1) := by decide +kernel
theorem dX4_canTake_34 : decode cX4_canTake 34 = .ok (.aload_n 0, 1) := by decide +kernel
theorem dX4_canTake_35 : decode cX4_canTake 35 = .ok (.getfield 30, 3) := by decide +kernel
theorem dX4_canTake_38 : decode cX4_canTake 38 = .ok (.iload_n 2, 1) := by decide +kernel
theorem dX4_canTake_39 : decode cX4_canTake 39 = .ok (.iaload, 1) := by decide +kernel
theorem dX4_canTake_40 : decode cX4_canTake 40 = .ok (.if_icmp .gt 7, 3) := by decide +kernel
theorem dX4_canTake_43 : decode cX4_canTake 43 = .ok (.iconst 1, 1) := by decide +kernel
theorem dX4_canTake_44 : decode cX4_canTake 44 = .ok (.goto 4, 3) := by decide +kernel
theorem dX4_canTake_47 : decode cX4_canTake 47 = .ok (.iconst 0, 1) := by decide +kernel
theorem dX4_canTake_48 : decode cX4_canTake 48 = .ok (.ireturn, 1) := by decide +kernel
theorem dX4_place_0 : decode cX4_place 0 = .ok (.iload_n 2, 1) := by decide +kernel
theorem dX4_place_1 : decode cX4_place 1 = .ok (.bipush 8, 2) := by decide +kernel
theorem dX4_place_3 : decode cX4_place 3 = .ok (.if_icmp .gt 18, 3) := by decide +kernel
theorem dX4_place_6 : decode cX4_place 6 = .ok (.iload_n 3, 1) := by decide +kernel
theorem dX4_place_7 : decode cX4_place 7 = .ok (.aload_n 0, 1) := by decide +kernel
theorem dX4_place_8 : decode cX4_place 8 = .ok (.getfield 27, 3) := by decide +kernel
theorem dX4_place_11 : decode cX4_place 11 = .ok (.iload_n 2, 1) := by decide +kernel
theorem dX4_place_12 : decode cX4_place 12 = .ok (.iaload, 1) := by decide +kernel
theorem dX4_place_13 : decode cX4_place 13 = .ok (.iadd, 1) := by decide +kernel
theorem dX4_place_14 : decode cX4_place 14 = .ok (.aload_n 0, 1) := by decide +kernel
theorem dX4_place_15 : decode cX4_place 15 = .ok (.getfield 37, 3) := by decide +kernel
theorem dX4_place_18 : decode cX4_place 18 = .ok (.if_icmp .gt 4, 3) := by decide +kernel
theorem dX4_place_21 : decode cX4_place 21 = .ok (.return_, 1) := by decide +kernel
theorem dX4_place_22 : decode cX4_place 22 = .ok (.iload_n 2, 1) := by decide +kernel
theorem dX4_place_23 : decode cX4_place 23 = .ok (.aload_n 0, 1) := by decide +kernel
theorem dX4_place_24 : decode cX4_place 24 = .ok (.getfield 33, 3) := by decide +kernel
theorem dX4_place_27 : decode cX4_place 27 = .ok (.if_icmp .lt 41, 3) := by decide +kernel
theorem dX4_place_30 : decode cX4_place 30 = .ok (.aload_n 0, 1) := by decide +kernel
theorem dX4_place_31 : decode cX4_place 31 = .ok (.iload_n 3, 1) := by decide +kernel
theorem dX4_place_32 : decode cX4_place 32 = .ok (.putfield 37, 3) := by decide +kernel
theorem dX4_place_35 : decode cX4_place 35 = .ok (.iconst 0, 1) := by decide +kernel
theorem dX4_place_36 : decode cX4_place 36 = .ok (.istore 4, 2) := by decide +kernel
theorem dX4_place_38 : decode cX4_place 38 = .ok (.iload 4, 2) := by decide +kernel
theorem dX4_place_40 : decode cX4_place 40 = .ok (.aload_n 0, 1) := by decide +kernel
theorem dX4_place_41 : decode cX4_place 41 = .ok (.getfield 33, 3) := by decide +kernel
theorem dX4_place_44 : decode cX4_place 44 = .ok (.if_icmp .ge 23, 3) := by decide +kernel
theorem dX4_place_47 : decode cX4_place 47 = .ok (.aload_n 0, 1) := by decide +kernel
theorem dX4_place_48 : decode cX4_place 48 = .ok (.getfield 24, 3) := by decide +kernel
theorem dX4_place_51 : decode cX4_place 51 = .ok (.iload 4, 2) := by decide +kernel
theorem dX4_place_53 : decode cX4_place 53 = .ok (.aload_n 0, 1) := by decide +kernel
theorem dX4_place_54 : decode cX4_place 54 = .ok (.getfield 21, 3) := by decide +kernel
theorem dX4_place_57 : decode cX4_place 57 = .ok (.iload 4, 2) := by decide +kernel
theorem dX4_place_59 : decode cX4_place 59 = .ok (.iaload, 1) := by decide +kernel
theorem dX4_place_60 : decode cX4_place 60 = .ok (.iastore, 1) := by decide +kernel
theorem dX4_place_61 : decode cX4_place 61 = .ok (.iinc 4 1, 3) := by decide +kernel
theorem dX4_place_64 : decode cX4_place 64 = .ok (.goto (-26), 3) := by decide +kernel
theorem dX4_place_67 : decode cX4_place 67 = .ok (.return_, 1) := by decide +kernel
theorem dX4_place_68 : decode cX4_place 68 = .ok (.aload_n 0, 1) := by decide +kernel
theorem dX4_place_69 : decode cX4_place 69 = .ok (.getfield 15, 3) := by decide +kernel
theorem dX4_place_72 : decode cX4_place 72 = .ok (.iload_n 2, 1) := by decide +kernel
theorem dX4_place_73 : decode cX4_place 73 = .ok (.iaload, 1) := by decide +kernel
theorem dX4_place_74 : decode cX4_place 74 = .ok (.istore 4, 2) := by decide +kernel
theorem dX4_place_76 : decode cX4_place 76 = .ok (.iconst 0, 1) := by decide +kernel
theorem dX4_place_77 : decode cX4_place 77 = .ok (.istore 5, 2) := by decide +kernel
theorem dX4_place_79 : decode cX4_place 79 = .ok (.iload 5, 2) := by decide +kernel
theorem dX4_place_81 : decode cX4_place 81 = .ok (.aload_n 1, 1) := by decide +kernel
theorem dX4_place_82 : decode cX4_place 82 = .ok (.getfield 57, 3) := by decide +kernel
theorem dX4_place_85 : decode cX4_place 85 = .ok (.if_icmp .ge 81, 3) := by decide +kernel
theorem dX4_place_88 : decode cX4_place 88 = .ok (.iload 5, 2) := by decide +kernel
theorem dX4_place_90 : decode cX4_place 90 = .ok (.iconst 3, 1) := by decide +kernel
theorem dX4_place_91 : decode cX4_place 91 = .ok (.if_icmp .ge 75, 3) := by decide +kernel
theorem dX4_place_94 : decode cX4_place 94 = .ok (.aload_n 0, 1) := by decide +kernel
theorem dX4_place_95 : decode cX4_place 95 = .ok (.aload_n 1, 1) := by decide +kernel
theorem dX4_place_96 : decode cX4_place 96 = .ok (.iload 5, 2) := by decide +kernel
theorem dX4_place_98 : decode cX4_place 98 = .ok (.iload_n 2, 1) := by decide +kernel
theorem dX4_place_99 : decode cX4_place 99 = .ok (.invokevirtual 60, 3) := by decide +kernel
theorem dX4_place_102 : decode cX4_place 102 = .ok (.ifCond .ne 6, 3) := by decide +kernel
theorem dX4_place_105 : decode cX4_place 105 = .ok (.goto 55, 3) := by decide +kernel
theorem dX4_place_108 : decode cX4_place 108 = .ok (.aload_n 0, 1) := by decide +kernel
theorem dX4_place_109 : decode cX4_place 109 = .ok (.getfield 21, 3) := by decide +kernel
theorem dX4_place_112 : decode cX4_place 112 = .ok (.iload_n 2, 1) := by decide +kernel
theorem dX4_place_113 : decode cX4_place 113 = .ok (.iload 5, 2) := by decide +kernel
theorem dX4_place_115 : decode cX4_place 115 = .ok (.iastore, 1) := by decide +kernel
theorem dX4_place_116 : decode cX4_place 116 = .ok (.aload_n 0, 1) := by decide +kernel
theorem dX4_place_117 : decode cX4_place 117 = .ok (.getfield 30, 3) := by decide +kernel
theorem dX4_place_120 : decode cX4_place 120 = .ok (.iload 5, 2) := by decide +kernel
theorem dX4_place_122 : decode cX4_place 122 = .ok (.dup2, 1) := by decide +kernel
theorem dX4_place_123 : decode cX4_place 123 = .ok (.iaload, 1) := by decide +kernel
theorem dX4_place_124 : decode cX4_place 124 = .ok (.iload 4, 2) := by decide +kernel
theorem dX4_place_126 : decode cX4_place 126 = .ok (.isub, 1) := by decide +kernel
theorem dX4_place_127 : decode cX4_place 127 = .ok (.iastore, 1) := by decide +kernel
theorem dX4_place_128 : decode cX4_place 128 = .ok (.aload_n 0, 1) := by decide +kernel
theorem dX4_place_129 : decode cX4_place 129 = .ok (.aload_n 1, 1) := by decide +kernel
theorem dX4_place_130 : decode cX4_place 130 = .ok (.iload_n 2, 1) := by decide +kernel
theorem dX4_place_131 : decode cX4_place 131 = .ok (.iconst 1, 1) := by decide +kernel
theorem dX4_place_132 : decode cX4_place 132 = .ok (.iadd, 1) := by decide +kernel
theorem dX4_place_133 : decode cX4_place 133 = .ok (.iload_n 3, 1) := by decide +kernel
theorem dX4_place_134 : decode cX4_place 134 = .ok (.iload 4, 2) := by decide +kernel
theorem dX4_place_136 : decode cX4_place 136 = .ok (.aload_n 1, 1) := by decide +kernel
theorem dX4_place_137 : decode cX4_place 137 = .ok (.iload 5, 2) := by decide +kernel
theorem dX4_place_139 : decode cX4_place 139 = .ok (.iconst 2, 1) := by decide +kernel
theorem dX4_place_140 : decode cX4_place 140 = .ok (.invokevirtual 44, 3) := by decide +kernel
theorem dX4_place_143 : decode cX4_place 143 = .ok (.imul, 1) := by decide +kernel
theorem dX4_place_144 : decode cX4_place 144 = .ok (.iadd, 1) := by decide +kernel
theorem dX4_place_145 : decode cX4_place 145 = .ok (.invokestatic 53, 3) := by decide +kernel
theorem dX4_place_148 : decode cX4_place 148 = .ok (.aload_n 0, 1) := by decide +kernel
theorem dX4_place_149 : decode cX4_place 149 = .ok (.getfield 30, 3) := by decide +kernel
theorem dX4_place_152 : decode cX4_place 152 = .ok (.iload 5, 2) := by decide +kernel
theorem dX4_place_154 : decode cX4_place 154 = .ok (.dup2, 1) := by decide +kernel
theorem dX4_place_155 : decode cX4_place 155 = .ok (.iaload, 1) := by decide +kernel
theorem dX4_place_156 : decode cX4_place 156 = .ok (.iload 4, 2) := by decide +kernel
theorem dX4_place_158 : decode cX4_place 158 = .ok (.iadd, 1) := by decide +kernel
theorem dX4_place_159 : decode cX4_place 159 = .ok (.iastore, 1) := by decide +kernel
theorem dX4_place_160 : decode cX4_place 160 = .ok (.iinc 5 1, 3) := by decide +kernel
theorem dX4_place_163 : decode cX4_place 163 = .ok (.goto (-84), 3) := by decide +kernel
theorem dX4_place_166 : decode cX4_place 166 = .ok (.aload_n 0, 1) := by decide +kernel
theorem dX4_place_167 : decode cX4_place 167 = .ok (.getfield 21, 3) := by decide +kernel
theorem dX4_place_170 : decode cX4_place 170 = .ok (.iload_n 2, 1) := by decide +kernel
theorem dX4_place_171 : decode cX4_place 171 = .ok (.iconst (-1), 1) := by decide +kernel
theorem dX4_place_172 : decode cX4_place 172 = .ok (.iastore, 1) := by decide +kernel
theorem dX4_place_173 : decode cX4_place 173 = .ok (.aload_n 0, 1) := by decide +kernel
theorem dX4_place_174 : decode cX4_place 174 = .ok (.aload_n 1, 1) := by decide +kernel
theorem dX4_place_175 : decode cX4_place 175 = .ok (.iload_n 2, 1) := by decide +kernel
theorem dX4_place_176 : decode cX4_place 176 = .ok (.iconst 1, 1) := by decide +kernel
theorem dX4_place_177 : decode cX4_place 177 = .ok (.iadd, 1) := by decide +kernel
theorem dX4_place_178 : decode cX4_place 178 = .ok (.iload_n 3, 1) := by decide +kernel
theorem dX4_place_179 : decode cX4_place 179 = .ok (.invokestatic 53, 3) := by decide +kernel
theorem dX4_place_182 : decode cX4_place 182 = .ok (.return_, 1) := by decide +kernel
theorem dX5_init_0 : decode cX5_init 0 = .ok (.aload_n 0, 1) := by decide +kernel
theorem dX5_init_1 : decode cX5_init 1 = .ok (.invokespecial 3, 3) := by decide +kernel
theorem dX5_init_4 : decode cX5_init 4 = .ok (.aload_n 0, 1) := by decide +kernel
theorem dX5_init_5 : decode cX5_init 5 = .ok (.iconst 3, 1) := by decide +kernel
theorem dX5_init_6 : decode cX5_init 6 = .ok (.newarray .int, 2) := by decide +kernel
theorem dX5_init_8 : decode cX5_init 8 = .ok (.putfield 9, 3) := by decide +kernel
theorem dX5_init_11 : decode cX5_init 11 = .ok (.aload_n 0, 1) := by decide +kernel
theorem dX5_init_12 : decode cX5_init 12 = .ok (.iconst 3, 1) := by decide +kernel
theorem dX5_init_13 : decode cX5_init 13 = .ok (.newarray .int, 2) := by decide +kernel
theorem dX5_init_15 : decode cX5_init 15 = .ok (.putfield 15, 3) := by decide +kernel
theorem dX5_init_18 : decode cX5_init 18 = .ok (.iconst 0, 1) := by decide +kernel
theorem dX5_init_19 : decode cX5_init 19 = .ok (.istore_n 1, 1) := by decide +kernel
theorem dX5_init_20 : decode cX5_init 20 = .ok (.iload_n 1, 1) := by decide +kernel
theorem dX5_init_21 : decode cX5_init 21 = .ok (.iconst 3, 1) := by decide +kernel
theorem dX5_init_22 : decode cX5_init 22 = .ok (.if_icmp .ge 16, 3) := by decide +kernel
theorem dX5_init_25 : decode cX5_init 25 = .ok (.aload_n 0, 1) := by decide +kernel
theorem dX5_init_26 : decode cX5_init 26 = .ok (.getfield 9, 3) := by decide +kernel
theorem dX5_init_29 : decode cX5_init 29 = .ok (.iload_n 1, 1) := by decide +kernel
theorem dX5_init_30 : decode cX5_init 30 = .ok (.iconst (-1), 1) := by decide +kernel
theorem dX5_init_31 : decode cX5_init 31 = .ok (.iastore, 1) := by decide +kernel
theorem dX5_init_32 : decode cX5_init 32 = .ok (.iinc 1 1, 3) := by decide +kernel
theorem dX5_init_35 : decode cX5_init 35 = .ok (.goto (-15), 3) := by decide +kernel
theorem dX5_init_38 : decode cX5_init 38 = .ok (.return_, 1) := by decide +kernel
theorem dX5_look_0 : decode cX5_look 0 = .ok (.aload_n 0, 1) := by decide +kernel
theorem dX5_look_1 : decode cX5_look 1 = .ok (.getfield 9, 3) := by decide +kernel
theorem dX5_look_4 : decode cX5_look 4 = .ok (.iconst 0, 1) := by decide +kernel
theorem dX5_look_5 : decode cX5_look 5 = .ok (.iload_n 1, 1) := by decide +kernel
theorem dX5_look_6 : decode cX5_look 6 = .ok (.iastore, 1) := by decide +kernel
theorem dX5_look_7 : decode cX5_look 7 = .ok (.aload_n 0, 1) := by decide +kernel
theorem dX5_look_8 : decode cX5_look 8 = .ok (.getfield 9, 3) := by decide +kernel
theorem dX5_look_11 : decode cX5_look 11 = .ok (.iconst 1, 1) := by decide +kernel
theorem dX5_look_12 : decode cX5_look 12 = .ok (.iload_n 2, 1) := by decide +kernel
theorem dX5_look_13 : decode cX5_look 13 = .ok (.iastore, 1) := by decide +kernel
theorem dX5_look_14 : decode cX5_look 14 = .ok (.aload_n 0, 1) := by decide +kernel
theorem dX5_look_15 : decode cX5_look 15 = .ok (.getfield 9, 3) := by decide +kernel
theorem dX5_look_18 : decode cX5_look 18 = .ok (.iconst 2, 1) := by decide +kernel
theorem dX5_look_19 : decode cX5_look 19 = .ok (.iload_n 3, 1) := by decide +kernel
theorem dX5_look_20 : decode cX5_look 20 = .ok (.iastore, 1) := by decide +kernel
theorem dX5_look_21 : decode cX5_look 21 = .ok (.iconst 0, 1) := by decide +kernel
theorem dX5_look_22 : decode cX5_look 22 = .ok (.istore 4, 2) := by decide +kernel
theorem dX5_look_24 : decode cX5_look 24 = .ok (.iload 4, 2) := by decide +kernel
theorem dX5_look_26 : decode cX5_look 26 = .ok (.iconst 3, 1) := by decide +kernel
theorem dX5_look_27 : decode cX5_look 27 = .ok (.if_icmp .ge 41, 3) := by decide +kernel
theorem dX5_look_30 : decode cX5_look 30 = .ok (.aload_n 0, 1) := by decide +kernel
theorem dX5_look_31 : decode cX5_look 31 = .ok (.getfield 15, 3) := by decide +kernel
theorem dX5_look_34 : decode cX5_look 34 = .ok (.iload 4, 2) := by decide +kernel
theorem dX5_look_36 : decode cX5_look 36 = .ok (.iaload, 1) := by decide +kernel
theorem dX5_look_37 : decode cX5_look 37 = .ok (.ifCond .gt 6, 3) := by decide +kernel
theorem dX5_look_40 : decode cX5_look 40 = .ok (.goto 22, 3) := by decide +kernel
theorem dX5_look_43 : decode cX5_look 43 = .ok (.aload_n 0, 1) := by decide +kernel
theorem dX5_look_44 : decode cX5_look 44 = .ok (.getfield 9, 3) := by decide +kernel
theorem dX5_look_47 : decode cX5_look 47 = .ok (.iload 4, 2) := by decide +kernel
theorem dX5_look_49 : decode cX5_look 49 = .ok (.iconst (-1), 1) := by decide +kernel
theorem dX5_look_50 : decode cX5_look 50 = .ok (.iastore, 1) := by decide +kernel
theorem dX5_look_51 : decode cX5_look 51 = .ok (.aload_n 0, 1) := by decide +kernel
theorem dX5_look_52 : decode cX5_look 52 = .ok (.getfield 15, 3) := by decide +kernel
theorem dX5_look_55 : decode cX5_look 55 = .ok (.iload 4, 2) := by decide +kernel
theorem dX5_look_57 : decode cX5_look 57 = .ok (.dup2, 1) := by decide +kernel
theorem dX5_look_58 : decode cX5_look 58 = .ok (.iaload, 1) := by decide +kernel
theorem dX5_look_59 : decode cX5_look 59 = .ok (.iconst 1, 1) := by decide +kernel
theorem dX5_look_60 : decode cX5_look 60 = .ok (.isub, 1) := by decide +kernel
theorem dX5_look_61 : decode cX5_look 61 = .ok (.iastore, 1) := by decide +kernel
theorem dX5_look_62 : decode cX5_look 62 = .ok (.iinc 4 1, 3) := by decide +kernel
theorem dX5_look_65 : decode cX5_look 65 = .ok (.goto (-41), 3) := by decide +kernel
theorem dX5_look_68 : decode cX5_look 68 = .ok (.return_, 1) := by decide +kernel
theorem dX6_init_0 : decode cX6_init 0 = .ok (.aload_n 0, 1) := by decide +kernel
theorem dX6_init_1 : decode cX6_init 1 = .ok (.invokespecial 3, 3) := by decide +kernel
theorem dX6_init_4 : decode cX6_init 4 = .ok (.aload_n 0, 1) := by decide +kernel
theorem dX6_init_5 : decode cX6_init 5 = .ok (.iconst 0, 1) := by decide +kernel
theorem dX6_init_6 : decode cX6_init 6 = .ok (.putfield 9, 3) := by decide +kernel
theorem dX6_init_9 : decode cX6_init 9 = .ok (.aload_n 0, 1) := by decide +kernel
theorem dX6_init_10 : decode cX6_init 10 = .ok (.iconst 0, 1) := by decide +kernel
theorem dX6_init_11 : decode cX6_init 11 = .ok (.iload_n 1, 1) := by decide +kernel
theorem dX6_init_12 : decode cX6_init 12 = .ok (.invokestatic 15, 3) := by decide +kernel
theorem dX6_init_15 : decode cX6_init 15 = .ok (.putfield 21, 3) := by decide +kernel
theorem dX6_init_18 : decode cX6_init 18 = .ok (.aload_n 0, 1) := by decide +kernel
theorem dX6_init_19 : decode cX6_init 19 = .ok (.iconst 0, 1) := by decide +kernel
theorem dX6_init_20 : decode cX6_init 20 = .ok (.iload_n 2, 1) := by decide +kernel
theorem dX6_init_21 : decode cX6_init 21 = .ok (.invokestatic 15, 3) := by decide +kernel
theorem dX6_init_24 : decode cX6_init 24 = .ok (.putfield 24, 3) := by decide +kernel
theorem dX6_init_27 : decode cX6_init 27 = .ok (.aload_n 0, 1) := by decide +kernel
theorem dX6_init_28 : decode cX6_init 28 = .ok (.aload_n 0, 1) := by decide +kernel
theorem dX6_init_29 : decode cX6_init 29 = .ok (.getfield 21, 3) := by decide +kernel
theorem dX6_init_32 : decode cX6_init 32 = .ok (.aload_n 0, 1) := by decide +kernel
theorem dX6_init_33 : decode cX6_init 33 = .ok (.getfield 24, 3) := by decide +kernel
theorem dX6_init_36 : decode cX6_init 36 = .ok (.imul, 1) := by decide +kernel
theorem dX6_init_37 : decode cX6_init 37 = .ok (.newarray .int, 2) := by decide +kernel
theorem dX6_init_39 : decode cX6_init 39 = .ok (.putfield 27, 3) := by decide +kernel
theorem dX6_init_42 : decode cX6_init 42 = .ok (.return_, 1) := by decide +kernel
theorem dX6_isFull_0 : decode cX6_isFull 0 = .ok (.aload_n 0, 1) := by decide +kernel
theorem dX6_isFull_1 : decode cX6_isFull 1 = .ok (.getfield 9, 3) := by decide +kernel
theorem dX6_isFull_4 : decode cX6_isFull 4 = .ok (.aload_n 0, 1) := by decide +kernel
theorem dX6_isFull_5 : decode cX6_isFull 5 = .ok (.getfield 21, 3) := by decide +kernel
theorem dX6_isFull_8 : decode cX6_isFull 8 = .ok (.if_icmp .lt 7, 3) := by decide +kernel
theorem dX6_isFull_11 : decode cX6_isFull 11 = .ok (.iconst 1, 1) := by decide +kernel
theorem dX6_isFull_12 : decode cX6_isFull 12 = .ok (.goto 4, 3) := by decide +kernel
theorem dX6_isFull_15 : decode cX6_isFull 15 = .ok (.iconst 0, 1) := by decide +kernel
theorem dX6_isFull_16 : decode cX6_isFull 16 = .ok (.ireturn, 1) := by decide +kernel
theorem dX6_add_0 : decode cX6_add 0 = .ok (.aload_n 0, 1) := by decide +kernel
theorem dX6_add_1 : decode cX6_add 1 = .ok (.invokevirtual 31, 3) := by decide +kernel
theorem dX6_add_4 : decode cX6_add 4 = .ok (.ifCond .eq 5, 3) := by decide +kernel
theorem dX6_add_7 : decode cX6_add 7 = .ok (.iconst (-1), 1) := by decide +kernel
theorem dX6_add_8 : decode cX6_add 8 = .ok (.ireturn, 1) := by decide +kernel
theorem dX6_add_9 : decode cX6_add 9 = .ok (.aload_n 0, 1) := by decide +kernel
theorem dX6_add_10 : decode cX6_add 10 = .ok (.dup, 1) := by decide +kernel
theorem dX6_add_11 : decode cX6_add 11 = .ok (.getfield 9, 3) := by decide +kernel
theorem dX6_add_14 : decode cX6_add 14 = .ok (.dup_x1, 1) := by decide +kernel
theorem dX6_add_15 : decode cX6_add 15 = .ok (.iconst 1, 1) := by decide +kernel
theorem dX6_add_16 : decode cX6_add 16 = .ok (.iadd, 1) := by decide +kernel
theorem dX6_add_17 : decode cX6_add 17 = .ok (.putfield 9, 3) := by decide +kernel
theorem dX6_add_20 : decode cX6_add 20 = .ok (.ireturn, 1) := by decide +kernel
theorem dX6_get_0 : decode cX6_get 0 = .ok (.aload_n 0, 1) := by decide +kernel
theorem dX6_get_1 : decode cX6_get 1 = .ok (.iload_n 1, 1) := by decide +kernel
theorem dX6_get_2 : decode cX6_get 2 = .ok (.iload_n 2, 1) := by decide +kernel
theorem dX6_get_3 : decode cX6_get 3 = .ok (.invokevirtual 35, 3) := by decide +kernel
theorem dX6_get_6 : decode cX6_get 6 = .ok (.ifCond .eq 19, 3) := by decide +kernel
theorem dX6_get_9 : decode cX6_get 9 = .ok (.aload_n 0, 1) := by decide +kernel
theorem dX6_get_10 : decode cX6_get 10 = .ok (.getfield 27, 3) := by decide +kernel
theorem dX6_get_13 : decode cX6_get 13 = .ok (.iload_n 1, 1) := by decide +kernel
theorem dX6_get_14 : decode cX6_get 14 = .ok (.aload_n 0, 1) := by decide +kernel
theorem dX6_get_15 : decode cX6_get 15 = .ok (.getfield 24, 3) := by decide +kernel
theorem dX6_get_18 : decode cX6_get 18 = .ok (.imul, 1) := by decide +kernel
theorem dX6_get_19 : decode cX6_get 19 = .ok (.iload_n 2, 1) := by decide +kernel
theorem dX6_get_20 : decode cX6_get 20 = .ok (.iadd, 1) := by decide +kernel
theorem dX6_get_21 : decode cX6_get 21 = .ok (.iaload, 1) := by decide +kernel
theorem dX6_get_22 : decode cX6_get 22 = .ok (.goto 4, 3) := by decide +kernel
theorem dX6_get_25 : decode cX6_get 25 = .ok (.iconst (-1), 1) := by decide +kernel
theorem dX6_get_26 : decode cX6_get 26 = .ok (.ireturn, 1) := by decide +kernel
theorem dX6_set_0 : decode cX6_set 0 = .ok (.aload_n 0, 1) := by decide +kernel
theorem dX6_set_1 : decode cX6_set 1 = .ok (.iload_n 1, 1) := by decide +kernel
theorem dX6_set_2 : decode cX6_set 2 = .ok (.iload_n 2, 1) := by decide +kernel
theorem dX6_set_3 : decode cX6_set 3 = .ok (.invokevirtual 35, 3) := by decide +kernel
theorem dX6_set_6 : decode cX6_set 6 = .ok (.ifCond .eq 17, 3) := by decide +kernel
theorem dX6_set_9 : decode cX6_set 9 = .ok (.aload_n 0, 1) := by decide +kernel
theorem dX6_set_10 : decode cX6_set 10 = .ok (.getfield 27, 3) := by decide +kernel
theorem dX6_set_13 : decode cX6_set 13 = .ok (.iload_n 1, 1) := by decide +kernel
theorem dX6_set_14 : decode cX6_set 14 = .ok (.aload_n 0, 1) := by decide +kernel
theorem dX6_set_15 : decode cX6_set 15 = .ok (.getfield 24, 3) := by decide +kernel
theorem dX6_set_18 : decode cX6_set 18 = .ok (.imul, 1) := by decide +kernel
theorem dX6_set_19 : decode cX6_set 19 = .ok (.iload_n 2, 1) := by decide +kernel
theorem dX6_set_20 : decode cX6_set 20 = .ok (.iadd, 1) := by decide +kernel
theorem dX6_set_21 : decode cX6_set 21 = .ok (.iload_n 3, 1) := by decide +kernel
theorem dX6_set_22 : decode cX6_set 22 = .ok (.iastore, 1) := by decide +kernel
theorem dX6_set_23 : decode cX6_set 23 = .ok (.return_, 1) := by decide +kernel
theorem dX6_mixInto_0 : decode cX6_mixInto 0 = .ok (.aload_n 0, 1) := by decide +kernel
theorem dX6_mixInto_1 : decode cX6_mixInto 1 = .ok (.getfield 9, 3) := by decide +kernel
theorem dX6_mixInto_4 : decode cX6_mixInto 4 = .ok (.aload_n 0, 1) := by decide +kernel
theorem dX6_mixInto_5 : decode cX6_mixInto 5 = .ok (.getfield 24, 3) := by decide +kernel
theorem dX6_mixInto_8 : decode cX6_mixInto 8 = .ok (.imul, 1) := by decide +kernel
theorem dX6_mixInto_9 : decode cX6_mixInto 9 = .ok (.istore_n 3, 1) := by decide +kernel
theorem dX6_mixInto_10 : decode cX6_mixInto 10 = .ok (.iconst 0, 1) := by decide +kernel
theorem dX6_mixInto_11 : decode cX6_mixInto 11 = .ok (.istore 4, 2) := by decide +kernel
theorem dX6_mixInto_13 : decode cX6_mixInto 13 = .ok (.iload 4, 2) := by decide +kernel
theorem dX6_mixInto_15 : decode cX6_mixInto 15 = .ok (.iload_n 3, 1) := by decide +kernel
theorem dX6_mixInto_16 : decode cX6_mixInto 16 = .ok (.if_icmp .ge 34, 3) := by decide +kernel
theorem dX6_mixInto_19 : decode cX6_mixInto 19 = .ok (.iload 4, 2) := by decide +kernel
theorem dX6_mixInto_21 : decode cX6_mixInto 21 = .ok (.aload_n 0, 1) := by decide +kernel
theorem dX6_mixInto_22 : decode cX6_mixInto 22 = .ok (.getfield 27, 3) := by decide +kernel
theorem dX6_mixInto_25 : decode cX6_mixInto 25 = .ok (.arraylength, 1) := by decide +kernel
theorem dX6_mixInto_26 : decode cX6_mixInto 26 = .ok (.if_icmp .ge 24, 3) := by decide +kernel
theorem dX6_mixInto_29 : decode cX6_mixInto 29 = .ok (.ldc2_w 39, 3) := by decide +kernel
theorem dX6_mixInto_32 : decode cX6_mixInto 32 = .ok (.lload_n 1, 1) := by decide +kernel
theorem dX6_mixInto_33 : decode cX6_mixInto 33 = .ok (.lmul, 1) := by decide +kernel
theorem dX6_mixInto_34 : decode cX6_mixInto 34 = .ok (.aload_n 0, 1) := by decide +kernel
theorem dX6_mixInto_35 : decode cX6_mixInto 35 = .ok (.getfield 27, 3) := by decide +kernel
theorem dX6_mixInto_38 : decode cX6_mixInto 38 = .ok (.iload 4, 2) := by decide +kernel
theorem dX6_mixInto_40 : decode cX6_mixInto 40 = .ok (.iaload, 1) := by decide +kernel
theorem dX6_mixInto_41 : decode cX6_mixInto 41 = .ok (.i2l, 1) := by decide +kernel
theorem dX6_mixInto_42 : decode cX6_mixInto 42 = .ok (.ladd, 1) := by decide +kernel
theorem dX6_mixInto_43 : decode cX6_mixInto 43 = .ok (.lstore_n 1, 1) := by decide +kernel
theorem dX6_mixInto_44 : decode cX6_mixInto 44 = .ok (.iinc 4 1, 3) := by decide +kernel
theorem dX6_mixInto_47 : decode cX6_mixInto 47 = .ok (.goto (-34), 3) := by decide +kernel
theorem dX6_mixInto_50 : decode cX6_mixInto 50 = .ok (.lload_n 1, 1) := by decide +kernel
theorem dX6_mixInto_51 : decode cX6_mixInto 51 = .ok (.lreturn, 1) := by decide +kernel
theorem dX6_has_0 : decode cX6_has 0 = .ok (.iload_n 1, 1) := by decide +kernel
theorem dX6_has_1 : decode cX6_has 1 = .ok (.ifCond .lt 27, 3) := by decide +kernel
theorem dX6_has_4 : decode cX6_has 4 = .ok (.iload_n 1, 1) := by decide +kernel
theorem dX6_has_5 : decode cX6_has 5 = .ok (.aload_n 0, 1) := by decide +kernel
theorem dX6_has_6 : decode cX6_has 6 = .ok (.getfield 21, 3) := by decide +kernel
theorem dX6_has_9 : decode cX6_has 9 = .ok (.if_icmp .ge 19, 3) := by decide +kernel
theorem dX6_has_12 : decode cX6_has 12 = .ok (.iload_n 2, 1) := by decide +kernel
theorem dX6_has_13 : decode cX6_has 13 = .ok (.ifCond .lt 15, 3) := by decide +kernel
theorem dX6_has_16 : decode cX6_has 16 = .ok (.iload_n 2, 1) := by decide +kernel
theorem dX6_has_17 : decode cX6_has 17 = .ok (.aload_n 0, 1) := by decide +kernel
theorem dX6_has_18 : decode cX6_has 18 = .ok (.getfield 24, 3) := by decide +kernel
theorem dX6_has_21 : decode cX6_has 21 = .ok (.if_icmp .ge 7, 3) := by decide +kernel
theorem dX6_has_24 : decode cX6_has 24 = .ok (.iconst 1, 1) := by decide +kernel
theorem dX6_has_25 : decode cX6_has 25 = .ok (.goto 4, 3) := by decide +kernel
theorem dX6_has_28 : decode cX6_has 28 = .ok (.iconst 0, 1) := by decide +kernel
theorem dX6_has_29 : decode cX6_has 29 = .ok (.ireturn, 1) := by decide +kernel
theorem dX7_init_0 : decode cX7_init 0 = .ok (.aload_n 0, 1) := by decide +kernel
theorem dX7_init_1 : decode cX7_init 1 = .ok (.invokespecial 1, 3) := by decide +kernel
theorem dX7_init_4 : decode cX7_init 4 = .ok (.aload_n 0, 1) := by decide +kernel
theorem dX7_init_5 : decode cX7_init 5 = .ok (.bipush 6, 2) := by decide +kernel
theorem dX7_init_7 : decode cX7_init 7 = .ok (.newarray .int, 2) := by decide +kernel
theorem dX7_init_9 : decode cX7_init 9 = .ok (.putfield 9, 3) := by decide +kernel
theorem dX7_init_12 : decode cX7_init 12 = .ok (.aload_n 0, 1) := by decide +kernel
theorem dX7_init_13 : decode cX7_init 13 = .ok (.iconst 4, 1) := by decide +kernel
theorem dX7_init_14 : decode cX7_init 14 = .ok (.newarray .int, 2) := by decide +kernel
theorem dX7_init_16 : decode cX7_init 16 = .ok (.putfield 13, 3) := by decide +kernel
theorem dX7_init_19 : decode cX7_init 19 = .ok (.aload_n 0, 1) := by decide +kernel
theorem dX7_init_20 : decode cX7_init 20 = .ok (.new 16, 3) := by decide +kernel
theorem dX7_init_23 : decode cX7_init 23 = .ok (.dup, 1) := by decide +kernel
theorem dX7_init_24 : decode cX7_init 24 = .ok (.invokespecial 18, 3) := by decide +kernel
theorem dX7_init_27 : decode cX7_init 27 = .ok (.putfield 19, 3) := by decide +kernel
theorem dX7_init_30 : decode cX7_init 30 = .ok (.aload_n 0, 1) := by decide +kernel
theorem dX7_init_31 : decode cX7_init 31 = .ok (.new 23, 3) := by decide +kernel
theorem dX7_init_34 : decode cX7_init 34 = .ok (.dup, 1) := by decide +kernel
theorem dX7_init_35 : decode cX7_init 35 = .ok (.invokespecial 25, 3) := by decide +kernel
theorem dX7_init_38 : decode cX7_init 38 = .ok (.putfield 26, 3) := by decide +kernel
theorem dX7_init_41 : decode cX7_init 41 = .ok (.aload_n 0, 1) := by decide +kernel
theorem dX7_init_42 : decode cX7_init 42 = .ok (.new 30, 3) := by decide +kernel
theorem dX7_init_45 : decode cX7_init 45 = .ok (.dup, 1) := by decide +kernel
theorem dX7_init_46 : decode cX7_init 46 = .ok (.invokespecial 32, 3) := by decide +kernel
theorem dX7_init_49 : decode cX7_init 49 = .ok (.putfield 33, 3) := by decide +kernel
theorem dX7_init_52 : decode cX7_init 52 = .ok (.aload_n 0, 1) := by decide +kernel
theorem dX7_init_53 : decode cX7_init 53 = .ok (.new 37, 3) := by decide +kernel
theorem dX7_init_56 : decode cX7_init 56 = .ok (.dup, 1) := by decide +kernel
theorem dX7_init_57 : decode cX7_init 57 = .ok (.bipush 60, 2) := by decide +kernel
theorem dX7_init_59 : decode cX7_init 59 = .ok (.bipush 6, 2) := by decide +kernel
theorem dX7_init_61 : decode cX7_init 61 = .ok (.invokespecial 39, 3) := by decide +kernel
theorem dX7_init_64 : decode cX7_init 64 = .ok (.putfield 42, 3) := by decide +kernel
theorem dX7_init_67 : decode cX7_init 67 = .ok (.aload_n 0, 1) := by decide +kernel
theorem dX7_init_68 : decode cX7_init 68 = .ok (.new 46, 3) := by decide +kernel
theorem dX7_init_71 : decode cX7_init 71 = .ok (.dup, 1) := by decide +kernel
theorem dX7_init_72 : decode cX7_init 72 = .ok (.invokespecial 48, 3) := by decide +kernel
theorem dX7_init_75 : decode cX7_init 75 = .ok (.putfield 49, 3) := by decide +kernel
theorem dX7_init_78 : decode cX7_init 78 = .ok (.aload_n 0, 1) := by decide +kernel
theorem dX7_init_79 : decode cX7_init 79 = .ok (.new 37, 3) := by decide +kernel
theorem dX7_init_82 : decode cX7_init 82 = .ok (.dup, 1) := by decide +kernel
theorem dX7_init_83 : decode cX7_init 83 = .ok (.bipush 8, 2) := by decide +kernel
theorem dX7_init_85 : decode cX7_init 85 = .ok (.iconst 4, 1) := by decide +kernel
theorem dX7_init_86 : decode cX7_init 86 = .ok (.invokespecial 39, 3) := by decide +kernel
theorem dX7_init_89 : decode cX7_init 89 = .ok (.putfield 53, 3) := by decide +kernel
theorem dX7_init_92 : decode cX7_init 92 = .ok (.aload_n 0, 1) := by decide +kernel
theorem dX7_init_93 : decode cX7_init 93 = .ok (.new 37, 3) := by decide +kernel
theorem dX7_init_96 : decode cX7_init 96 = .ok (.dup, 1) := by decide +kernel
theorem dX7_init_97 : decode cX7_init 97 = .ok (.iconst 3, 1) := by decide +kernel
theorem dX7_init_98 : decode cX7_init 98 = .ok (.iconst 3, 1) := by decide +kernel
theorem dX7_init_99 : decode cX7_init 99 = .ok (.invokespecial 39, 3) := by decide +kernel
theorem dX7_init_102 : decode cX7_init 102 = .ok (.putfield 56, 3) := by decide +kernel
theorem dX7_init_105 : decode cX7_init 105 = .ok (.aload_n 0, 1) := by decide +kernel
theorem dX7_init_106 : decode cX7_init 106 = .ok (.new 59, 3) := by decide +kernel
theorem dX7_init_109 : decode cX7_init 109 = .ok (.dup, 1) := by decide +kernel
theorem dX7_init_110 : decode cX7_init 110 = .ok (.invokespecial 61, 3) := by decide +kernel
theorem dX7_init_113 : decode cX7_init 113 = .ok (.putfield 62, 3) := by decide +kernel
theorem dX7_init_116 : decode cX7_init 116 = .ok (.aload_n 0, 1) := by decide +kernel
end
section
theorem dX7_init_117 : decode cX7_init 117 = .ok (.new 37, 3) := by decide +kernel
theorem dX7_init_120 : decode cX7_init 120 = .ok (.dup, 1) := by decide +kernel
theorem dX7_init_121 : decode cX7_init 121 = .ok (.bipush 12, 2) := by decide +kernel
theorem dX7_init_123 : decode cX7_init 123 = .ok (.iconst 2, 1) := by decide +kernel
theorem dX7_init_124 : decode cX7_init 124 = .ok (.invokespecial 39, 3) := by decide +kernel
theorem dX7_init_127 : decode cX7_init 127 = .ok (.putfield 66, 3) := by decide +kernel
theorem dX7_init_130 : decode cX7_init 130 = .ok (.aload_n 0, 1) := by decide +kernel
theorem dX7_init_131 : decode cX7_init 131 = .ok (.new 37, 3) := by decide +kernel
theorem dX7_init_134 : decode cX7_init 134 = .ok (.dup, 1) := by decide +kernel
theorem dX7_init_135 : decode cX7_init 135 = .ok (.iconst 5, 1) := by decide +kernel
theorem dX7_init_136 : decode cX7_init 136 = .ok (.iconst 3, 1) := by decide +kernel
theorem dX7_init_137 : decode cX7_init 137 = .ok (.invokespecial 39, 3) := by decide +kernel
theorem dX7_init_140 : decode cX7_init 140 = .ok (.putfield 69, 3) := by decide +kernel
theorem dX7_init_143 : decode cX7_init 143 = .ok (.aload_n 0, 1) := by decide +kernel
theorem dX7_init_144 : decode cX7_init 144 = .ok (.new 72, 3) := by decide +kernel
theorem dX7_init_147 : decode cX7_init 147 = .ok (.dup, 1) := by decide +kernel
theorem dX7_init_148 : decode cX7_init 148 = .ok (.invokespecial 74, 3) := by decide +kernel
theorem dX7_init_151 : decode cX7_init 151 = .ok (.putfield 75, 3) := by decide +kernel
theorem dX7_init_154 : decode cX7_init 154 = .ok (.aload_n 0, 1) := by decide +kernel
theorem dX7_init_155 : decode cX7_init 155 = .ok (.iconst 0, 1) := by decide +kernel
theorem dX7_init_156 : decode cX7_init 156 = .ok (.putfield 79, 3) := by decide +kernel
theorem dX7_init_159 : decode cX7_init 159 = .ok (.aload_n 0, 1) := by decide +kernel
theorem dX7_init_160 : decode cX7_init 160 = .ok (.iconst 0, 1) := by decide +kernel
theorem dX7_init_161 : decode cX7_init 161 = .ok (.putfield 83, 3) := by decide +kernel
theorem dX7_init_164 : decode cX7_init 164 = .ok (.iconst 0, 1) := by decide +kernel
theorem dX7_init_165 : decode cX7_init 165 = .ok (.istore_n 1, 1) := by decide +kernel
theorem dX7_init_166 : decode cX7_init 166 = .ok (.iload_n 1, 1) := by decide +kernel
theorem dX7_init_167 : decode cX7_init 167 = .ok (.iconst 4, 1) := by decide +kernel
theorem dX7_init_168 : decode cX7_init 168 = .ok (.if_icmp .ge 17, 3) := by decide +kernel
theorem dX7_init_171 : decode cX7_init 171 = .ok (.aload_n 0, 1) := by decide +kernel
theorem dX7_init_172 : decode cX7_init 172 = .ok (.getfield 13, 3) := by decide +kernel
theorem dX7_init_175 : decode cX7_init 175 = .ok (.iload_n 1, 1) := by decide +kernel
theorem dX7_init_176 : decode cX7_init 176 = .ok (.bipush 30, 2) := by decide +kernel
theorem dX7_init_178 : decode cX7_init 178 = .ok (.iastore, 1) := by decide +kernel
theorem dX7_init_179 : decode cX7_init 179 = .ok (.iinc 1 1, 3) := by decide +kernel
theorem dX7_init_182 : decode cX7_init 182 = .ok (.goto (-16), 3) := by decide +kernel
theorem dX7_init_185 : decode cX7_init 185 = .ok (.iconst 0, 1) := by decide +kernel
theorem dX7_init_186 : decode cX7_init 186 = .ok (.istore_n 1, 1) := by decide +kernel
theorem dX7_init_187 : decode cX7_init 187 = .ok (.iload_n 1, 1) := by decide +kernel
theorem dX7_init_188 : decode cX7_init 188 = .ok (.bipush 12, 2) := by decide +kernel
theorem dX7_init_190 : decode cX7_init 190 = .ok (.if_icmp .ge 19, 3) := by decide +kernel
theorem dX7_init_193 : decode cX7_init 193 = .ok (.aload_n 0, 1) := by decide +kernel
theorem dX7_init_194 : decode cX7_init 194 = .ok (.getfield 66, 3) := by decide +kernel
theorem dX7_init_197 : decode cX7_init 197 = .ok (.iload_n 1, 1) := by decide +kernel
theorem dX7_init_198 : decode cX7_init 198 = .ok (.iconst 0, 1) := by decide +kernel
theorem dX7_init_199 : decode cX7_init 199 = .ok (.iconst 4, 1) := by decide +kernel
theorem dX7_init_200 : decode cX7_init 200 = .ok (.invokevirtual 86, 3) := by decide +kernel
theorem dX7_init_203 : decode cX7_init 203 = .ok (.iinc 1 1, 3) := by decide +kernel
theorem dX7_init_206 : decode cX7_init 206 = .ok (.goto (-19), 3) := by decide +kernel
theorem dX7_init_209 : decode cX7_init 209 = .ok (.iconst 0, 1) := by decide +kernel
theorem dX7_init_210 : decode cX7_init 210 = .ok (.istore_n 1, 1) := by decide +kernel
theorem dX7_init_211 : decode cX7_init 211 = .ok (.iload_n 1, 1) := by decide +kernel
theorem dX7_init_212 : decode cX7_init 212 = .ok (.iconst 5, 1) := by decide +kernel
theorem dX7_init_213 : decode cX7_init 213 = .ok (.if_icmp .ge 48, 3) := by decide +kernel
theorem dX7_init_216 : decode cX7_init 216 = .ok (.aload_n 0, 1) := by decide +kernel
theorem dX7_init_217 : decode cX7_init 217 = .ok (.getfield 69, 3) := by decide +kernel
theorem dX7_init_220 : decode cX7_init 220 = .ok (.iload_n 1, 1) := by decide +kernel
theorem dX7_init_221 : decode cX7_init 221 = .ok (.iconst 0, 1) := by decide +kernel
theorem dX7_init_222 : decode cX7_init 222 = .ok (.bipush 100, 2) := by decide +kernel
theorem dX7_init_224 : decode cX7_init 224 = .ok (.iload_n 1, 1) := by decide +kernel
theorem dX7_init_225 : decode cX7_init 225 = .ok (.imul, 1) := by decide +kernel
theorem dX7_init_226 : decode cX7_init 226 = .ok (.invokevirtual 86, 3) := by decide +kernel
theorem dX7_init_229 : decode cX7_init 229 = .ok (.aload_n 0, 1) := by decide +kernel
theorem dX7_init_230 : decode cX7_init 230 = .ok (.getfield 69, 3) := by decide +kernel
theorem dX7_init_233 : decode cX7_init 233 = .ok (.iload_n 1, 1) := by decide +kernel
theorem dX7_init_234 : decode cX7_init 234 = .ok (.iconst 1, 1) := by decide +kernel
theorem dX7_init_235 : decode cX7_init 235 = .ok (.bipush 50, 2) := by decide +kernel
theorem dX7_init_237 : decode cX7_init 237 = .ok (.iload_n 1, 1) := by decide +kernel
theorem dX7_init_238 : decode cX7_init 238 = .ok (.imul, 1) := by decide +kernel
theorem dX7_init_239 : decode cX7_init 239 = .ok (.invokevirtual 86, 3) := by decide +kernel
theorem dX7_init_242 : decode cX7_init 242 = .ok (.aload_n 0, 1) := by decide +kernel
theorem dX7_init_243 : decode cX7_init 243 = .ok (.getfield 69, 3) := by decide +kernel
theorem dX7_init_246 : decode cX7_init 246 = .ok (.iload_n 1, 1) := by decide +kernel
theorem dX7_init_247 : decode cX7_init 247 = .ok (.iconst 2, 1) := by decide +kernel
theorem dX7_init_248 : decode cX7_init 248 = .ok (.bipush 80, 2) := by decide +kernel
theorem dX7_init_250 : decode cX7_init 250 = .ok (.iload_n 1, 1) := by decide +kernel
theorem dX7_init_251 : decode cX7_init 251 = .ok (.imul, 1) := by decide +kernel
theorem dX7_init_252 : decode cX7_init 252 = .ok (.invokevirtual 86, 3) := by decide +kernel
theorem dX7_init_255 : decode cX7_init 255 = .ok (.iinc 1 1, 3) := by decide +kernel
theorem dX7_init_258 : decode cX7_init 258 = .ok (.goto (-47), 3) := by decide +kernel
theorem dX7_init_261 : decode cX7_init 261 = .ok (.return_, 1) := by decide +kernel
theorem dX7_buy_0 : decode cX7_buy 0 = .ok (.iload_n 1, 1) := by decide +kernel
theorem dX7_buy_1 : decode cX7_buy 1 = .ok (.iconst 0, 1) := by decide +kernel
theorem dX7_buy_2 : decode cX7_buy 2 = .ok (.iconst 5, 1) := by decide +kernel
theorem dX7_buy_3 : decode cX7_buy 3 = .ok (.invokestatic 90, 3) := by decide +kernel
theorem dX7_buy_6 : decode cX7_buy 6 = .ok (.ifCond .eq 14, 3) := by decide +kernel
theorem dX7_buy_9 : decode cX7_buy 9 = .ok (.iload_n 2, 1) := by decide +kernel
theorem dX7_buy_10 : decode cX7_buy 10 = .ok (.iconst 0, 1) := by decide +kernel
theorem dX7_buy_11 : decode cX7_buy 11 = .ok (.sipush 10000, 3) := by decide +kernel
theorem dX7_buy_14 : decode cX7_buy 14 = .ok (.invokestatic 90, 3) := by decide +kernel
theorem dX7_buy_17 : decode cX7_buy 17 = .ok (.ifCond .ne 6, 3) := by decide +kernel
theorem dX7_buy_20 : decode cX7_buy 20 = .ok (.bipush (-2), 2) := by decide +kernel
theorem dX7_buy_22 : decode cX7_buy 22 = .ok (.ireturn, 1) := by decide +kernel
theorem dX7_buy_23 : decode cX7_buy 23 = .ok (.aload_n 0, 1) := by decide +kernel
theorem dX7_buy_24 : decode cX7_buy 24 = .ok (.getfield 9, 3) := by decide +kernel
theorem dX7_buy_27 : decode cX7_buy 27 = .ok (.iload_n 1, 1) := by decide +kernel
theorem dX7_buy_28 : decode cX7_buy 28 = .ok (.iaload, 1) := by decide +kernel
theorem dX7_buy_29 : decode cX7_buy 29 = .ok (.iload_n 2, 1) := by decide +kernel
theorem dX7_buy_30 : decode cX7_buy 30 = .ok (.iadd, 1) := by decide +kernel
theorem dX7_buy_31 : decode cX7_buy 31 = .ok (.sipush 10000, 3) := by decide +kernel
theorem dX7_buy_34 : decode cX7_buy 34 = .ok (.if_icmp .le 6, 3) := by decide +kernel
theorem dX7_buy_37 : decode cX7_buy 37 = .ok (.bipush (-3), 2) := by decide +kernel
theorem dX7_buy_39 : decode cX7_buy 39 = .ok (.ireturn, 1) := by decide +kernel
theorem dX7_buy_40 : decode cX7_buy 40 = .ok (.aload_n 0, 1) := by decide +kernel
theorem dX7_buy_41 : decode cX7_buy 41 = .ok (.getfield 9, 3) := by decide +kernel
theorem dX7_buy_44 : decode cX7_buy 44 = .ok (.iload_n 1, 1) := by decide +kernel
theorem dX7_buy_45 : decode cX7_buy 45 = .ok (.dup2, 1) := by decide +kernel
theorem dX7_buy_46 : decode cX7_buy 46 = .ok (.iaload, 1) := by decide +kernel
theorem dX7_buy_47 : decode cX7_buy 47 = .ok (.iload_n 2, 1) := by decide +kernel
theorem dX7_buy_48 : decode cX7_buy 48 = .ok (.iadd, 1) := by decide +kernel
theorem dX7_buy_49 : decode cX7_buy 49 = .ok (.iastore, 1) := by decide +kernel
theorem dX7_buy_50 : decode cX7_buy 50 = .ok (.aload_n 0, 1) := by decide +kernel
theorem dX7_buy_51 : decode cX7_buy 51 = .ok (.getfield 9, 3) := by decide +kernel
theorem dX7_buy_54 : decode cX7_buy 54 = .ok (.iload_n 1, 1) := by decide +kernel
theorem dX7_buy_55 : decode cX7_buy 55 = .ok (.iaload, 1) := by decide +kernel
theorem dX7_buy_56 : decode cX7_buy 56 = .ok (.ireturn, 1) := by decide +kernel
theorem dX7_rich_0 : decode cX7_rich 0 = .ok (.iload_n 1, 1) := by decide +kernel
theorem dX7_rich_1 : decode cX7_rich 1 = .ok (.iconst 0, 1) := by decide +kernel
theorem dX7_rich_2 : decode cX7_rich 2 = .ok (.iconst 3, 1) := by decide +kernel
theorem dX7_rich_3 : decode cX7_rich 3 = .ok (.invokestatic 90, 3) := by decide +kernel
theorem dX7_rich_6 : decode cX7_rich 6 = .ok (.ifCond .eq 14, 3) := by decide +kernel
theorem dX7_rich_9 : decode cX7_rich 9 = .ok (.iload_n 2, 1) := by decide +kernel
theorem dX7_rich_10 : decode cX7_rich 10 = .ok (.bipush 10, 2) := by decide +kernel
theorem dX7_rich_12 : decode cX7_rich 12 = .ok (.bipush 60, 2) := by decide +kernel
theorem dX7_rich_14 : decode cX7_rich 14 = .ok (.invokestatic 90, 3) := by decide +kernel
theorem dX7_rich_17 : decode cX7_rich 17 = .ok (.ifCond .ne 6, 3) := by decide +kernel
theorem dX7_rich_20 : decode cX7_rich 20 = .ok (.bipush (-2), 2) := by decide +kernel
theorem dX7_rich_22 : decode cX7_rich 22 = .ok (.ireturn, 1) := by decide +kernel
theorem dX7_rich_23 : decode cX7_rich 23 = .ok (.aload_n 0, 1) := by decide +kernel
theorem dX7_rich_24 : decode cX7_rich 24 = .ok (.getfield 13, 3) := by decide +kernel
theorem dX7_rich_27 : decode cX7_rich 27 = .ok (.iload_n 1, 1) := by decide +kernel
theorem dX7_rich_28 : decode cX7_rich 28 = .ok (.iaload, 1) := by decide +kernel
theorem dX7_rich_29 : decode cX7_rich 29 = .ok (.istore_n 3, 1) := by decide +kernel
theorem dX7_rich_30 : decode cX7_rich 30 = .ok (.aload_n 0, 1) := by decide +kernel
theorem dX7_rich_31 : decode cX7_rich 31 = .ok (.getfield 13, 3) := by decide +kernel
theorem dX7_rich_34 : decode cX7_rich 34 = .ok (.iload_n 1, 1) := by decide +kernel
theorem dX7_rich_35 : decode cX7_rich 35 = .ok (.iload_n 2, 1) := by decide +kernel
theorem dX7_rich_36 : decode cX7_rich 36 = .ok (.iastore, 1) := by decide +kernel
theorem dX7_rich_37 : decode cX7_rich 37 = .ok (.iload_n 3, 1) := by decide +kernel
theorem dX7_rich_38 : decode cX7_rich 38 = .ok (.ireturn, 1) := by decide +kernel
theorem dX7_charge_0 : decode cX7_charge 0 = .ok (.iload_n 1, 1) := by decide +kernel
theorem dX7_charge_1 : decode cX7_charge 1 = .ok (.iconst 1, 1) := by decide +kernel
theorem dX7_charge_2 : decode cX7_charge 2 = .ok (.bipush 60, 2) := by decide +kernel
theorem dX7_charge_4 : decode cX7_charge 4 = .ok (.invokestatic 90, 3) := by decide +kernel
theorem dX7_charge_7 : decode cX7_charge 7 = .ok (.ifCond .eq 12, 3) := by decide +kernel
theorem dX7_charge_10 : decode cX7_charge 10 = .ok (.iload_n 2, 1) := by decide +kernel
theorem dX7_charge_11 : decode cX7_charge 11 = .ok (.iconst 0, 1) := by decide +kernel
theorem dX7_charge_12 : decode cX7_charge 12 = .ok (.iconst 3, 1) := by decide +kernel
theorem dX7_charge_13 : decode cX7_charge 13 = .ok (.invokestatic 90, 3) := by decide +kernel
theorem dX7_charge_16 : decode cX7_charge 16 = .ok (.ifCond .ne 6, 3) := by decide +kernel
theorem dX7_charge_19 : decode cX7_charge 19 = .ok (.bipush (-2), 2) := by decide +kernel
theorem dX7_charge_21 : decode cX7_charge 21 = .ok (.ireturn, 1) := by decide +kernel
theorem dX7_charge_22 : decode cX7_charge 22 = .ok (.iload_n 3, 1) := by decide +kernel
theorem dX7_charge_23 : decode cX7_charge 23 = .ok (.iconst 0, 1) := by decide +kernel
theorem dX7_charge_24 : decode cX7_charge 24 = .ok (.bipush 60, 2) := by decide +kernel
theorem dX7_charge_26 : decode cX7_charge 26 = .ok (.invokestatic 90, 3) := by decide +kernel
theorem dX7_charge_29 : decode cX7_charge 29 = .ok (.ifCond .eq 14, 3) := by decide +kernel
theorem dX7_charge_32 : decode cX7_charge 32 = .ok (.iload 4, 2) := by decide +kernel
theorem dX7_charge_34 : decode cX7_charge 34 = .ok (.iconst 0, 1) := by decide +kernel
theorem dX7_charge_35 : decode cX7_charge 35 = .ok (.bipush 30, 2) := by decide +kernel
theorem dX7_charge_37 : decode cX7_charge 37 = .ok (.invokestatic 90, 3) := by decide +kernel
theorem dX7_charge_40 : decode cX7_charge 40 = .ok (.ifCond .ne 6, 3) := by decide +kernel
theorem dX7_charge_43 : decode cX7_charge 43 = .ok (.bipush (-2), 2) := by decide +kernel
theorem dX7_charge_45 : decode cX7_charge 45 = .ok (.ireturn, 1) := by decide +kernel
theorem dX7_charge_46 : decode cX7_charge 46 = .ok (.iconst 2, 1) := by decide +kernel
theorem dX7_charge_47 : decode cX7_charge 47 = .ok (.iload_n 2, 1) := by decide +kernel
theorem dX7_charge_48 : decode cX7_charge 48 = .ok (.iadd, 1) := by decide +kernel
theorem dX7_charge_49 : decode cX7_charge 49 = .ok (.istore 5, 2) := by decide +kernel
theorem dX7_charge_51 : decode cX7_charge 51 = .ok (.aload_n 0, 1) := by decide +kernel
theorem dX7_charge_52 : decode cX7_charge 52 = .ok (.getfield 9, 3) := by decide +kernel
theorem dX7_charge_55 : decode cX7_charge 55 = .ok (.iconst 0, 1) := by decide +kernel
theorem dX7_charge_56 : decode cX7_charge 56 = .ok (.iaload, 1) := by decide +kernel
theorem dX7_charge_57 : decode cX7_charge 57 = .ok (.iload_n 1, 1) := by decide +kernel
theorem dX7_charge_58 : decode cX7_charge 58 = .ok (.if_icmp .lt 25, 3) := by decide +kernel
theorem dX7_charge_61 : decode cX7_charge 61 = .ok (.aload_n 0, 1) := by decide +kernel
theorem dX7_charge_62 : decode cX7_charge 62 = .ok (.getfield 9, 3) := by decide +kernel
theorem dX7_charge_65 : decode cX7_charge 65 = .ok (.iload 5, 2) := by decide +kernel
theorem dX7_charge_67 : decode cX7_charge 67 = .ok (.iaload, 1) := by decide +kernel
theorem dX7_charge_68 : decode cX7_charge 68 = .ok (.iload_n 3, 1) := by decide +kernel
theorem dX7_charge_69 : decode cX7_charge 69 = .ok (.if_icmp .lt 14, 3) := by decide +kernel
theorem dX7_charge_72 : decode cX7_charge 72 = .ok (.aload_n 0, 1) := by decide +kernel
theorem dX7_charge_73 : decode cX7_charge 73 = .ok (.getfield 9, 3) := by decide +kernel
theorem dX7_charge_76 : decode cX7_charge 76 = .ok (.iconst 1, 1) := by decide +kernel
theorem dX7_charge_77 : decode cX7_charge 77 = .ok (.iaload, 1) := by decide +kernel
theorem dX7_charge_78 : decode cX7_charge 78 = .ok (.iload 4, 2) := by decide +kernel
theorem dX7_charge_80 : decode cX7_charge 80 = .ok (.if_icmp .ge 6, 3) := by decide +kernel
theorem dX7_charge_83 : decode cX7_charge 83 = .ok (.bipush (-3), 2) := by decide +kernel
theorem dX7_charge_85 : decode cX7_charge 85 = .ok (.ireturn, 1) := by decide +kernel
theorem dX7_charge_86 : decode cX7_charge 86 = .ok (.aload_n 0, 1) := by decide +kernel
theorem dX7_charge_87 : decode cX7_charge 87 = .ok (.getfield 19, 3) := by decide +kernel
theorem dX7_charge_90 : decode cX7_charge 90 = .ok (.invokevirtual 94, 3) := by decide +kernel
theorem dX7_charge_93 : decode cX7_charge 93 = .ok (.bipush 12, 2) := by decide +kernel
theorem dX7_charge_95 : decode cX7_charge 95 = .ok (.if_icmp .ge 16, 3) := by decide +kernel
theorem dX7_charge_98 : decode cX7_charge 98 = .ok (.aload_n 0, 1) := by decide +kernel
theorem dX7_charge_99 : decode cX7_charge 99 = .ok (.getfield 19, 3) := by decide +kernel
theorem dX7_charge_102 : decode cX7_charge 102 = .ok (.getfield 98, 3) := by decide +kernel
theorem dX7_charge_105 : decode cX7_charge 105 = .ok (.invokevirtual 101, 3) := by decide +kernel
theorem dX7_charge_108 : decode cX7_charge 108 = .ok (.ifCond .eq 6, 3) := by decide +kernel
theorem dX7_charge_111 : decode cX7_charge 111 = .ok (.bipush (-4), 2) := by decide +kernel
theorem dX7_charge_113 : decode cX7_charge 113 = .ok (.ireturn, 1) := by decide +kernel
theorem dX7_charge_114 : decode cX7_charge 114 = .ok (.aload_n 0, 1) := by decide +kernel
theorem dX7_charge_115 : decode cX7_charge 115 = .ok (.getfield 9, 3) := by decide +kernel
theorem dX7_charge_118 : decode cX7_charge 118 = .ok (.iconst 0, 1) := by decide +kernel
theorem dX7_charge_119 : decode cX7_charge 119 = .ok (.dup2, 1) := by decide +kernel
theorem dX7_charge_120 : decode cX7_charge 120 = .ok (.iaload, 1) := by decide +kernel
theorem dX7_charge_121 : decode cX7_charge 121 = .ok (.iload_n 1, 1) := by decide +kernel
theorem dX7_charge_122 : decode cX7_charge 122 = .ok (.isub, 1) := by decide +kernel
theorem dX7_charge_123 : decode cX7_charge 123 = .ok (.iastore, 1) := by decide +kernel
theorem dX7_charge_124 : decode cX7_charge 124 = .ok (.aload_n 0, 1) := by decide +kernel
theorem dX7_charge_125 : decode cX7_charge 125 = .ok (.getfield 9, 3) := by decide +kernel
theorem dX7_charge_128 : decode cX7_charge 128 = .ok (.iload 5, 2) := by decide +kernel
theorem dX7_charge_130 : decode cX7_charge 130 = .ok (.dup2, 1) := by decide +kernel
theorem dX7_charge_131 : decode cX7_charge 131 = .ok (.iaload, 1) := by decide +kernel
theorem dX7_charge_132 : decode cX7_charge 132 = .ok (.iload_n 3, 1) := by decide +kernel
theorem dX7_charge_133 : decode cX7_charge 133 = .ok (.isub, 1) := by decide +kernel
theorem dX7_charge_134 : decode cX7_charge 134 = .ok (.iastore, 1) := by decide +kernel
theorem dX7_charge_135 : decode cX7_charge 135 = .ok (.aload_n 0, 1) := by decide +kernel
theorem dX7_charge_136 : decode cX7_charge 136 = .ok (.getfield 9, 3) := by decide +kernel
theorem dX7_charge_139 : decode cX7_charge 139 = .ok (.iconst 1, 1) := by decide +kernel
theorem dX7_charge_140 : decode cX7_charge 140 = .ok (.dup2, 1) := by decide +kernel
theorem dX7_charge_141 : decode cX7_charge 141 = .ok (.iaload, 1) := by decide +kernel
theorem dX7_charge_142 : decode cX7_charge 142 = .ok (.iload 4, 2) := by decide +kernel
theorem dX7_charge_144 : decode cX7_charge 144 = .ok (.isub, 1) := by decide +kernel
theorem dX7_charge_145 : decode cX7_charge 145 = .ok (.iastore, 1) := by decide +kernel
theorem dX7_charge_146 : decode cX7_charge 146 = .ok (.aload_n 0, 1) := by decide +kernel
theorem dX7_charge_147 : decode cX7_charge 147 = .ok (.getfield 19, 3) := by decide +kernel
theorem dX7_charge_150 : decode cX7_charge 150 = .ok (.iload_n 1, 1) := by decide +kernel
theorem dX7_charge_151 : decode cX7_charge 151 = .ok (.iload_n 2, 1) := by decide +kernel
theorem dX7_charge_152 : decode cX7_charge 152 = .ok (.iload_n 3, 1) := by decide +kernel
theorem dX7_charge_153 : decode cX7_charge 153 = .ok (.iload 4, 2) := by decide +kernel
theorem dX7_charge_155 : decode cX7_charge 155 = .ok (.invokevirtual 105, 3) := by decide +kernel
theorem dX7_charge_158 : decode cX7_charge 158 = .ok (.ireturn, 1) := by decide +kernel
theorem dX7_chargeAt_0 : decode cX7_chargeAt 0 = .ok (.iload_n 1, 1) := by decide +kernel
theorem dX7_chargeAt_1 : decode cX7_chargeAt 1 = .ok (.ifCond .lt 13, 3) := by decide +kernel
theorem dX7_chargeAt_4 : decode cX7_chargeAt 4 = .ok (.iload_n 2, 1) := by decide +kernel
theorem dX7_chargeAt_5 : decode cX7_chargeAt 5 = .ok (.iconst 0, 1) := by decide +kernel
theorem dX7_chargeAt_6 : decode cX7_chargeAt 6 = .ok (.bipush 6, 2) := by decide +kernel
theorem dX7_chargeAt_8 : decode cX7_chargeAt 8 = .ok (.invokestatic 90, 3) := by decide +kernel
theorem dX7_chargeAt_11 : decode cX7_chargeAt 11 = .ok (.ifCond .ne 6, 3) := by decide +kernel
theorem dX7_chargeAt_14 : decode cX7_chargeAt 14 = .ok (.bipush (-2), 2) := by decide +kernel
theorem dX7_chargeAt_16 : decode cX7_chargeAt 16 = .ok (.ireturn, 1) := by decide +kernel
theorem dX7_chargeAt_17 : decode cX7_chargeAt 17 = .ok (.iload_n 1, 1) := by decide +kernel
theorem dX7_chargeAt_18 : decode cX7_chargeAt 18 = .ok (.aload_n 0, 1) := by decide +kernel
theorem dX7_chargeAt_19 : decode cX7_chargeAt 19 = .ok (.getfield 19, 3) := by decide +kernel
theorem dX7_chargeAt_22 : decode cX7_chargeAt 22 = .ok (.getfield 98, 3) := by decide +kernel
theorem dX7_chargeAt_25 : decode cX7_chargeAt 25 = .ok (.getfield 109, 3) := by decide +kernel
theorem dX7_chargeAt_28 : decode cX7_chargeAt 28 = .ok (.if_icmp .lt 5, 3) := by decide +kernel
theorem dX7_chargeAt_31 : decode cX7_chargeAt 31 = .ok (.iconst (-1), 1) := by decide +kernel
theorem dX7_chargeAt_32 : decode cX7_chargeAt 32 = .ok (.ireturn, 1) := by decide +kernel
theorem dX7_chargeAt_33 : decode cX7_chargeAt 33 = .ok (.aload_n 0, 1) := by decide +kernel
theorem dX7_chargeAt_34 : decode cX7_chargeAt 34 = .ok (.getfield 19, 3) := by decide +kernel
theorem dX7_chargeAt_37 : decode cX7_chargeAt 37 = .ok (.getfield 98, 3) := by decide +kernel
theorem dX7_chargeAt_40 : decode cX7_chargeAt 40 = .ok (.iload_n 1, 1) := by decide +kernel
theorem dX7_chargeAt_41 : decode cX7_chargeAt 41 = .ok (.iload_n 2, 1) := by decide +kernel
theorem dX7_chargeAt_42 : decode cX7_chargeAt 42 = .ok (.invokevirtual 112, 3) := by decide +kernel
theorem dX7_chargeAt_45 : decode cX7_chargeAt 45 = .ok (.ireturn, 1) := by decide +kernel
theorem dX7_when_0 : decode cX7_when 0 = .ok (.iload_n 1, 1) := by decide +kernel
theorem dX7_when_1 : decode cX7_when 1 = .ok (.iconst 0, 1) := by decide +kernel
theorem dX7_when_2 : decode cX7_when 2 = .ok (.aload_n 0, 1) := by decide +kernel
theorem dX7_when_3 : decode cX7_when 3 = .ok (.getfield 19, 3) := by decide +kernel
theorem dX7_when_6 : decode cX7_when 6 = .ok (.getfield 98, 3) := by decide +kernel
theorem dX7_when_9 : decode cX7_when 9 = .ok (.getfield 109, 3) := by decide +kernel
theorem dX7_when_12 : decode cX7_when 12 = .ok (.iconst 1, 1) := by decide +kernel
theorem dX7_when_13 : decode cX7_when 13 = .ok (.isub, 1) := by decide +kernel
theorem dX7_when_14 : decode cX7_when 14 = .ok (.invokestatic 90, 3) := by decide +kernel
theorem dX7_when_17 : decode cX7_when 17 = .ok (.ifCond .ne 6, 3) := by decide +kernel
theorem dX7_when_20 : decode cX7_when 20 = .ok (.bipush (-2), 2) := by decide +kernel
theorem dX7_when_22 : decode cX7_when 22 = .ok (.ireturn, 1) := by decide +kernel
theorem dX7_when_23 : decode cX7_when 23 = .ok (.aload_n 0, 1) := by decide +kernel
theorem dX7_when_24 : decode cX7_when 24 = .ok (.getfield 33, 3) := by decide +kernel
theorem dX7_when_27 : decode cX7_when 27 = .ok (.getfield 116, 3) := by decide +kernel
theorem dX7_when_30 : decode cX7_when 30 = .ok (.istore_n 2, 1) := by decide +kernel
theorem dX7_when_31 : decode cX7_when 31 = .ok (.iload_n 1, 1) := by decide +kernel
theorem dX7_when_32 : decode cX7_when 32 = .ok (.aload_n 0, 1) := by decide +kernel
theorem dX7_when_33 : decode cX7_when 33 = .ok (.getfield 19, 3) := by decide +kernel
theorem dX7_when_36 : decode cX7_when 36 = .ok (.getfield 119, 3) := by decide +kernel
theorem dX7_when_39 : decode cX7_when 39 = .ok (.if_icmp .lt 7, 3) := by decide +kernel
theorem dX7_when_42 : decode cX7_when 42 = .ok (.iload_n 2, 1) := by decide +kernel
theorem dX7_when_43 : decode cX7_when 43 = .ok (.ifCond .gt 5, 3) := by decide +kernel
theorem dX7_when_46 : decode cX7_when 46 = .ok (.iconst (-1), 1) := by decide +kernel
theorem dX7_when_47 : decode cX7_when 47 = .ok (.ireturn, 1) := by decide +kernel
theorem dX7_when_48 : decode cX7_when 48 = .ok (.aload_n 0, 1) := by decide +kernel
theorem dX7_when_49 : decode cX7_when 49 = .ok (.getfield 19, 3) := by decide +kernel
theorem dX7_when_52 : decode cX7_when 52 = .ok (.iload_n 1, 1) := by decide +kernel
theorem dX7_when_53 : decode cX7_when 53 = .ok (.invokevirtual 122, 3) := by decide +kernel
theorem dX7_when_56 : decode cX7_when 56 = .ok (.iload_n 2, 1) := by decide +kernel
theorem dX7_when_57 : decode cX7_when 57 = .ok (.iadd, 1) := by decide +kernel
theorem dX7_when_58 : decode cX7_when 58 = .ok (.iconst 1, 1) := by decide +kernel
theorem dX7_when_59 : decode cX7_when 59 = .ok (.isub, 1) := by decide +kernel
theorem dX7_when_60 : decode cX7_when 60 = .ok (.iload_n 2, 1) := by decide +kernel
theorem dX7_when_61 : decode cX7_when 61 = .ok (.idiv, 1) := by decide +kernel
theorem dX7_when_62 : decode cX7_when 62 = .ok (.ireturn, 1) := by decide +kernel
theorem dX7_blast_0 : decode cX7_blast 0 = .ok (.iload_n 1, 1) := by decide +kernel
theorem dX7_blast_1 : decode cX7_blast 1 = .ok (.iconst 0, 1) := by decide +kernel
theorem dX7_blast_2 : decode cX7_blast 2 = .ok (.bipush 20, 2) := by decide +kernel
theorem dX7_blast_4 : decode cX7_blast 4 = .ok (.invokestatic 90, 3) := by decide +kernel
theorem dX7_blast_7 : decode cX7_blast 7 = .ok (.ifCond .ne 6, 3) := by decide +kernel
theorem dX7_blast_10 : decode cX7_blast 10 = .ok (.bipush (-2), 2) := by decide +kernel
theorem dX7_blast_12 : decode cX7_blast 12 = .ok (.ireturn, 1) := by decide +kernel
theorem dX7_blast_13 : decode cX7_blast 13 = .ok (.aload_n 0, 1) := by decide +kernel
theorem dX7_blast_14 : decode cX7_blast 14 = .ok (.getfield 33, 3) := by decide +kernel
theorem dX7_blast_17 : decode cX7_blast 17 = .ok (.getfield 116, 3) := by decide +kernel
theorem dX7_blast_20 : decode cX7_blast 20 = .ok (.istore_n 2, 1) := by decide +kernel
theorem dX7_blast_21 : decode cX7_blast 21 = .ok (.aload_n 0, 1) := by decide +kernel
theorem dX7_blast_22 : decode cX7_blast 22 = .ok (.getfield 33, 3) := by decide +kernel
theorem dX7_blast_25 : decode cX7_blast 25 = .ok (.iload_n 1, 1) := by decide +kernel
theorem dX7_blast_26 : decode cX7_blast 26 = .ok (.putfield 116, 3) := by decide +kernel
theorem dX7_blast_29 : decode cX7_blast 29 = .ok (.iload_n 2, 1) := by decide +kernel
theorem dX7_blast_30 : decode cX7_blast 30 = .ok (.ireturn, 1) := by decide +kernel
theorem dX7_hearth_0 : decode cX7_hearth 0 = .ok (.iload_n 1, 1) := by decide +kernel
theorem dX7_hearth_1 : decode cX7_hearth 1 = .ok (.iconst 1, 1) := by decide +kernel
theorem dX7_hearth_2 : decode cX7_hearth 2 = .ok (.sipush 500, 3) := by decide +kernel
theorem dX7_hearth_5 : decode cX7_hearth 5 = .ok (.invokestatic 90, 3) := by decide +kernel
theorem dX7_hearth_8 : decode cX7_hearth 8 = .ok (.ifCond .eq 13, 3) := by decide +kernel
theorem dX7_hearth_11 : decode cX7_hearth 11 = .ok (.iload_n 2, 1) := by decide +kernel
theorem dX7_hearth_12 : decode cX7_hearth 12 = .ok (.iconst 1, 1) := by decide +kernel
theorem dX7_hearth_13 : decode cX7_hearth 13 = .ok (.ldc 126, 2) := by decide +kernel
theorem dX7_hearth_15 : decode cX7_hearth 15 = .ok (.invokestatic 90, 3) := by decide +kernel
theorem dX7_hearth_18 : decode cX7_hearth 18 = .ok (.ifCond .ne 6, 3) := by decide +kernel
theorem dX7_hearth_21 : decode cX7_hearth 21 = .ok (.bipush (-2), 2) := by decide +kernel
theorem dX7_hearth_23 : decode cX7_hearth 23 = .ok (.ireturn, 1) := by decide +kernel
theorem dX7_hearth_24 : decode cX7_hearth 24 = .ok (.aload_n 0, 1) := by decide +kernel
theorem dX7_hearth_25 : decode cX7_hearth 25 = .ok (.getfield 26, 3) := by decide +kernel
theorem dX7_hearth_28 : decode cX7_hearth 28 = .ok (.iload_n 1, 1) := by decide +kernel
theorem dX7_hearth_29 : decode cX7_hearth 29 = .ok (.putfield 127, 3) := by decide +kernel
theorem dX7_hearth_32 : decode cX7_hearth 32 = .ok (.aload_n 0, 1) := by decide +kernel
theorem dX7_hearth_33 : decode cX7_hearth 33 = .ok (.getfield 33, 3) := by decide +kernel
theorem dX7_hearth_36 : decode cX7_hearth 36 = .ok (.iload_n 2, 1) := by decide +kernel
theorem dX7_hearth_37 : decode cX7_hearth 37 = .ok (.putfield 130, 3) := by decide +kernel
theorem dX7_hearth_40 : decode cX7_hearth 40 = .ok (.iconst 1, 1) := by decide +kernel
theorem dX7_hearth_41 : decode cX7_hearth 41 = .ok (.ireturn, 1) := by decide +kernel
theorem dX7_tick_0 : decode cX7_tick 0 = .ok (.iload_n 1, 1) := by decide +kernel
theorem dX7_tick_1 : decode cX7_tick 1 = .ok (.iconst 1, 1) := by decide +kernel
theorem dX7_tick_2 : decode cX7_tick 2 = .ok (.bipush 50, 2) := by decide +kernel
theorem dX7_tick_4 : decode cX7_tick 4 = .ok (.invokestatic 90, 3) := by decide +kernel
theorem dX7_tick_7 : decode cX7_tick 7 = .ok (.ifCond .ne 6, 3) := by decide +kernel
theorem dX7_tick_10 : decode cX7_tick 10 = .ok (.bipush (-2), 2) := by decide +kernel
theorem dX7_tick_12 : decode cX7_tick 12 = .ok (.ireturn, 1) := by decide +kernel
theorem dX7_tick_13 : decode cX7_tick 13 = .ok (.aload_n 0, 1) := by decide +kernel
theorem dX7_tick_14 : decode cX7_tick 14 = .ok (.getfield 33, 3) := by decide +kernel
theorem dX7_tick_17 : decode cX7_tick 17 = .ok (.getfield 133, 3) := by decide +kernel
theorem dX7_tick_20 : decode cX7_tick 20 = .ok (.ifCond .eq 6, 3) := by decide +kernel
theorem dX7_tick_23 : decode cX7_tick 23 = .ok (.bipush (-3), 2) := by decide +kernel
theorem dX7_tick_25 : decode cX7_tick 25 = .ok (.ireturn, 1) := by decide +kernel
theorem dX7_tick_26 : decode cX7_tick 26 = .ok (.aload_n 0, 1) := by decide +kernel
theorem dX7_tick_27 : decode cX7_tick 27 = .ok (.getfield 33, 3) := by decide +kernel
theorem dX7_tick_30 : decode cX7_tick 30 = .ok (.getfield 137, 3) := by decide +kernel
theorem dX7_tick_33 : decode cX7_tick 33 = .ok (.iload_n 1, 1) := by decide +kernel
theorem dX7_tick_34 : decode cX7_tick 34 = .ok (.iadd, 1) := by decide +kernel
theorem dX7_tick_35 : decode cX7_tick 35 = .ok (.sipush 5000, 3) := by decide +kernel
theorem dX7_tick_38 : decode cX7_tick 38 = .ok (.if_icmp .le 6, 3) := by decide +kernel
theorem dX7_tick_41 : decode cX7_tick 41 = .ok (.bipush (-4), 2) := by decide +kernel
theorem dX7_tick_43 : decode cX7_tick 43 = .ok (.ireturn, 1) := by decide +kernel
theorem dX7_tick_44 : decode cX7_tick 44 = .ok (.iconst 0, 1) := by decide +kernel
theorem dX7_tick_45 : decode cX7_tick 45 = .ok (.istore_n 2, 1) := by decide +kernel
theorem dX7_tick_46 : decode cX7_tick 46 = .ok (.iconst 0, 1) := by decide +kernel
theorem dX7_tick_47 : decode cX7_tick 47 = .ok (.istore_n 3, 1) := by decide +kernel
theorem dX7_tick_48 : decode cX7_tick 48 = .ok (.iload_n 3, 1) := by decide +kernel
theorem dX7_tick_49 : decode cX7_tick 49 = .ok (.iload_n 1, 1) := by decide +kernel
theorem dX7_tick_50 : decode cX7_tick 50 = .ok (.if_icmp .ge 76, 3) := by decide +kernel
theorem dX7_tick_53 : decode cX7_tick 53 = .ok (.aload_n 0, 1) := by decide +kernel
theorem dX7_tick_54 : decode cX7_tick 54 = .ok (.getfield 33, 3) := by decide +kernel
theorem dX7_tick_57 : decode cX7_tick 57 = .ok (.getfield 133, 3) := by decide +kernel
theorem dX7_tick_60 : decode cX7_tick 60 = .ok (.ifCond .ne 66, 3) := by decide +kernel
theorem dX7_tick_63 : decode cX7_tick 63 = .ok (.aload_n 0, 1) := by decide +kernel
theorem dX7_tick_64 : decode cX7_tick 64 = .ok (.invokevirtual 140, 3) := by decide +kernel
theorem dX7_tick_67 : decode cX7_tick 67 = .ok (.aload_n 0, 1) := by decide +kernel
theorem dX7_tick_68 : decode cX7_tick 68 = .ok (.getfield 33, 3) := by decide +kernel
theorem dX7_tick_71 : decode cX7_tick 71 = .ok (.aload_n 0, 1) := by decide +kernel
theorem dX7_tick_72 : decode cX7_tick 72 = .ok (.getfield 19, 3) := by decide +kernel
theorem dX7_tick_75 : decode cX7_tick 75 = .ok (.aload_n 0, 1) := by decide +kernel
theorem dX7_tick_76 : decode cX7_tick 76 = .ok (.getfield 26, 3) := by decide +kernel
theorem dX7_tick_79 : decode cX7_tick 79 = .ok (.aload_n 0, 1) := by decide +kernel
theorem dX7_tick_80 : decode cX7_tick 80 = .ok (.getfield 13, 3) := by decide +kernel
theorem dX7_tick_83 : decode cX7_tick 83 = .ok (.invokevirtual 143, 3) := by decide +kernel
theorem dX7_tick_86 : decode cX7_tick 86 = .ok (.aload_n 0, 1) := by decide +kernel
theorem dX7_tick_87 : decode cX7_tick 87 = .ok (.getfield 49, 3) := by decide +kernel
theorem dX7_tick_90 : decode cX7_tick 90 = .ok (.aload_n 0, 1) := by decide +kernel
theorem dX7_tick_91 : decode cX7_tick 91 = .ok (.getfield 33, 3) := by decide +kernel
theorem dX7_tick_94 : decode cX7_tick 94 = .ok (.getfield 147, 3) := by decide +kernel
theorem dX7_tick_97 : decode cX7_tick 97 = .ok (.bipush 10, 2) := by decide +kernel
theorem dX7_tick_99 : decode cX7_tick 99 = .ok (.idiv, 1) := by decide +kernel
theorem dX7_tick_100 : decode cX7_tick 100 = .ok (.aload_n 0, 1) := by decide +kernel
theorem dX7_tick_101 : decode cX7_tick 101 = .ok (.getfield 33, 3) := by decide +kernel
theorem dX7_tick_104 : decode cX7_tick 104 = .ok (.getfield 150, 3) := by decide +kernel
theorem dX7_tick_107 : decode cX7_tick 107 = .ok (.aload_n 0, 1) := by decide +kernel
theorem dX7_tick_108 : decode cX7_tick 108 = .ok (.getfield 26, 3) := by decide +kernel
theorem dX7_tick_111 : decode cX7_tick 111 = .ok (.getfield 153, 3) := by decide +kernel
theorem dX7_tick_114 : decode cX7_tick 114 = .ok (.invokevirtual 156, 3) := by decide +kernel
theorem dX7_tick_117 : decode cX7_tick 117 = .ok (.iinc 2 1, 3) := by decide +kernel
theorem dX7_tick_120 : decode cX7_tick 120 = .ok (.iinc 3 1, 3) := by decide +kernel
theorem dX7_tick_123 : decode cX7_tick 123 = .ok (.goto (-75), 3) := by decide +kernel
theorem dX7_tick_126 : decode cX7_tick 126 = .ok (.iload_n 2, 1) := by decide +kernel
theorem dX7_tick_127 : decode cX7_tick 127 = .ok (.ireturn, 1) := by decide +kernel
theorem dX7_tap_0 : decode cX7_tap 0 = .ok (.aload_n 0, 1) := by decide +kernel
theorem dX7_tap_1 : decode cX7_tap 1 = .ok (.invokevirtual 159, 3) := by decide +kernel
theorem dX7_tap_4 : decode cX7_tap 4 = .ok (.ireturn, 1) := by decide +kernel
theorem dX7_about_0 : decode cX7_about 0 = .ok (.iload_n 1, 1) := by decide +kernel
theorem dX7_about_1 : decode cX7_about 1 = .ok (.tableswitch 167 0 11 #[63, 71, 79, 87, 95, 103, 111, 119, 127, 135, 151, 159], 63) := by decide +kernel
theorem dX7_about_64 : decode cX7_about 64 = .ok (.aload_n 0, 1) := by decide +kernel
theorem dX7_about_65 : decode cX7_about 65 = .ok (.getfield 33, 3) := by decide +kernel
theorem dX7_about_68 : decode cX7_about 68 = .ok (.getfield 147, 3) := by decide +kernel
theorem dX7_about_71 : decode cX7_about 71 = .ok (.ireturn, 1) := by decide +kernel
theorem dX7_about_72 : decode cX7_about 72 = .ok (.aload_n 0, 1) := by decide +kernel
theorem dX7_about_73 : decode cX7_about 73 = .ok (.getfield 26, 3) := by decide +kernel
theorem dX7_about_76 : decode cX7_about 76 = .ok (.getfield 153, 3) := by decide +kernel
theorem dX7_about_79 : decode cX7_about 79 = .ok (.ireturn, 1) := by decide +kernel
theorem dX7_about_80 : decode cX7_about 80 = .ok (.aload_n 0, 1) := by decide +kernel
theorem dX7_about_81 : decode cX7_about 81 = .ok (.getfield 33, 3) := by decide +kernel
theorem dX7_about_84 : decode cX7_about 84 = .ok (.getfield 162, 3) := by decide +kernel
theorem dX7_about_87 : decode cX7_about 87 = .ok (.ireturn, 1) := by decide +kernel
theorem dX7_about_88 : decode cX7_about 88 = .ok (.aload_n 0, 1) := by decide +kernel
theorem dX7_about_89 : decode cX7_about 89 = .ok (.getfield 33, 3) := by decide +kernel
theorem dX7_about_92 : decode cX7_about 92 = .ok (.getfield 165, 3) := by decide +kernel
theorem dX7_about_95 : decode cX7_about 95 = .ok (.ireturn, 1) := by decide +kernel
theorem dX7_about_96 : decode cX7_about 96 = .ok (.aload_n 0, 1) := by decide +kernel
theorem dX7_about_97 : decode cX7_about 97 = .ok (.getfield 33, 3) := by decide +kernel
theorem dX7_about_100 : decode cX7_about 100 = .ok (.getfield 137, 3) := by decide +kernel
theorem dX7_about_103 : decode cX7_about 103 = .ok (.ireturn, 1) := by decide +kernel
theorem dX7_about_104 : decode cX7_about 104 = .ok (.aload_n 0, 1) := by decide +kernel
theorem dX7_about_105 : decode cX7_about 105 = .ok (.getfield 19, 3) := by decide +kernel
theorem dX7_about_108 : decode cX7_about 108 = .ok (.invokevirtual 94, 3) := by decide +kernel
theorem dX7_about_111 : decode cX7_about 111 = .ok (.ireturn, 1) := by decide +kernel
theorem dX7_about_112 : decode cX7_about 112 = .ok (.aload_n 0, 1) := by decide +kernel
theorem dX7_about_113 : decode cX7_about 113 = .ok (.getfield 33, 3) := by decide +kernel
theorem dX7_about_116 : decode cX7_about 116 = .ok (.getfield 168, 3) := by decide +kernel
theorem dX7_about_119 : decode cX7_about 119 = .ok (.ireturn, 1) := by decide +kernel
theorem dX7_about_120 : decode cX7_about 120 = .ok (.aload_n 0, 1) := by decide +kernel
theorem dX7_about_121 : decode cX7_about 121 = .ok (.getfield 33, 3) := by decide +kernel
theorem dX7_about_124 : decode cX7_about 124 = .ok (.getfield 171, 3) := by decide +kernel
theorem dX7_about_127 : decode cX7_about 127 = .ok (.ireturn, 1) := by decide +kernel
theorem dX7_about_128 : decode cX7_about 128 = .ok (.aload_n 0, 1) := by decide +kernel
theorem dX7_about_129 : decode cX7_about 129 = .ok (.getfield 26, 3) := by decide +kernel
theorem dX7_about_132 : decode cX7_about 132 = .ok (.getfield 174, 3) := by decide +kernel
theorem dX7_about_135 : decode cX7_about 135 = .ok (.ireturn, 1) := by decide +kernel
theorem dX7_about_136 : decode cX7_about 136 = .ok (.aload_n 0, 1) := by decide +kernel
theorem dX7_about_137 : decode cX7_about 137 = .ok (.getfield 33, 3) := by decide +kernel
theorem dX7_about_140 : decode cX7_about 140 = .ok (.getfield 133, 3) := by decide +kernel
theorem dX7_about_143 : decode cX7_about 143 = .ok (.ifCond .eq 7, 3) := by decide +kernel
theorem dX7_about_146 : decode cX7_about 146 = .ok (.iconst 1, 1) := by decide +kernel
theorem dX7_about_147 : decode cX7_about 147 = .ok (.goto 4, 3) := by decide +kernel
theorem dX7_about_150 : decode cX7_about 150 = .ok (.iconst 0, 1) := by decide +kernel
theorem dX7_about_151 : decode cX7_about 151 = .ok (.ireturn, 1) := by decide +kernel
theorem dX7_about_152 : decode cX7_about 152 = .ok (.aload_n 0, 1) := by decide +kernel
theorem dX7_about_153 : decode cX7_about 153 = .ok (.getfield 26, 3) := by decide +kernel
theorem dX7_about_156 : decode cX7_about 156 = .ok (.getfield 177, 3) := by decide +kernel
theorem dX7_about_159 : decode cX7_about 159 = .ok (.ireturn, 1) := by decide +kernel
theorem dX7_about_160 : decode cX7_about 160 = .ok (.aload_n 0, 1) := by decide +kernel
theorem dX7_about_161 : decode cX7_about 161 = .ok (.getfield 33, 3) := by decide +kernel
theorem dX7_about_164 : decode cX7_about 164 = .ok (.getfield 116, 3) := by decide +kernel
theorem dX7_about_167 : decode cX7_about 167 = .ok (.ireturn, 1) := by decide +kernel
theorem dX7_about_168 : decode cX7_about 168 = .ok (.bipush (-2), 2) := by decide +kernel
theorem dX7_about_170 : decode cX7_about 170 = .ok (.ireturn, 1) := by decide +kernel
theorem dX7_store_0 : decode cX7_store 0 = .ok (.iload_n 1, 1) := by decide +kernel
theorem dX7_store_1 : decode cX7_store 1 = .ok (.iconst 0, 1) := by decide +kernel
theorem dX7_store_2 : decode cX7_store 2 = .ok (.iconst 5, 1) := by decide +kernel
theorem dX7_store_3 : decode cX7_store 3 = .ok (.invokestatic 90, 3) := by decide +kernel
theorem dX7_store_6 : decode cX7_store 6 = .ok (.ifCond .eq 12, 3) := by decide +kernel
theorem dX7_store_9 : decode cX7_store 9 = .ok (.aload_n 0, 1) := by decide +kernel
theorem dX7_store_10 : decode cX7_store 10 = .ok (.getfield 9, 3) := by decide +kernel
theorem dX7_store_13 : decode cX7_store 13 = .ok (.iload_n 1, 1) := by decide +kernel
theorem dX7_store_14 : decode cX7_store 14 = .ok (.iaload, 1) := by decide +kernel
theorem dX7_store_15 : decode cX7_store 15 = .ok (.goto 5, 3) := by decide +kernel
theorem dX7_store_18 : decode cX7_store 18 = .ok (.bipush (-2), 2) := by decide +kernel
theorem dX7_store_20 : decode cX7_store 20 = .ok (.ireturn, 1) := by decide +kernel
theorem dX7_pig_0 : decode cX7_pig 0 = .ok (.iload_n 1, 1) := by decide +kernel
theorem dX7_pig_1 : decode cX7_pig 1 = .ok (.ifCond .lt 12, 3) := by decide +kernel
theorem dX7_pig_4 : decode cX7_pig 4 = .ok (.iload_n 2, 1) := by decide +kernel
theorem dX7_pig_5 : decode cX7_pig 5 = .ok (.iconst 0, 1) := by decide +kernel
theorem dX7_pig_6 : decode cX7_pig 6 = .ok (.iconst 5, 1) := by decide +kernel
theorem dX7_pig_7 : decode cX7_pig 7 = .ok (.invokestatic 90, 3) := by decide +kernel
theorem dX7_pig_10 : decode cX7_pig 10 = .ok (.ifCond .ne 6, 3) := by decide +kernel
theorem dX7_pig_13 : decode cX7_pig 13 = .ok (.bipush (-2), 2) := by decide +kernel
theorem dX7_pig_15 : decode cX7_pig 15 = .ok (.ireturn, 1) := by decide +kernel
theorem dX7_pig_16 : decode cX7_pig 16 = .ok (.iload_n 1, 1) := by decide +kernel
theorem dX7_pig_17 : decode cX7_pig 17 = .ok (.aload_n 0, 1) := by decide +kernel
theorem dX7_pig_18 : decode cX7_pig 18 = .ok (.getfield 42, 3) := by decide +kernel
theorem dX7_pig_21 : decode cX7_pig 21 = .ok (.getfield 109, 3) := by decide +kernel
theorem dX7_pig_24 : decode cX7_pig 24 = .ok (.if_icmp .lt 5, 3) := by decide +kernel
theorem dX7_pig_27 : decode cX7_pig 27 = .ok (.iconst (-1), 1) := by decide +kernel
theorem dX7_pig_28 : decode cX7_pig 28 = .ok (.ireturn, 1) := by decide +kernel
theorem dX7_pig_29 : decode cX7_pig 29 = .ok (.aload_n 0, 1) := by decide +kernel
theorem dX7_pig_30 : decode cX7_pig 30 = .ok (.getfield 42, 3) := by decide +kernel
theorem dX7_pig_33 : decode cX7_pig 33 = .ok (.iload_n 1, 1) := by decide +kernel
theorem dX7_pig_34 : decode cX7_pig 34 = .ok (.iload_n 2, 1) := by decide +kernel
theorem dX7_pig_35 : decode cX7_pig 35 = .ok (.invokevirtual 112, 3) := by decide +kernel
theorem dX7_pig_38 : decode cX7_pig 38 = .ok (.ireturn, 1) := by decide +kernel
theorem dX7_sign_0 : decode cX7_sign 0 = .ok (.iload_n 1, 1) := by decide +kernel
theorem dX7_sign_1 : decode cX7_sign 1 = .ok (.iconst 0, 1) := by decide +kernel
theorem dX7_sign_2 : decode cX7_sign 2 = .ok (.iconst 2, 1) := by decide +kernel
theorem dX7_sign_3 : decode cX7_sign 3 = .ok (.invokestatic 90, 3) := by decide +kernel
theorem dX7_sign_6 : decode cX7_sign 6 = .ok (.ifCond .eq 15, 3) := by decide +kernel
theorem dX7_sign_9 : decode cX7_sign 9 = .ok (.aload_n 0, 1) := by decide +kernel
theorem dX7_sign_10 : decode cX7_sign 10 = .ok (.getfield 49, 3) := by decide +kernel
theorem dX7_sign_13 : decode cX7_sign 13 = .ok (.getfield 180, 3) := by decide +kernel
theorem dX7_sign_16 : decode cX7_sign 16 = .ok (.iload_n 1, 1) := by decide +kernel
theorem dX7_sign_17 : decode cX7_sign 17 = .ok (.iaload, 1) := by decide +kernel
theorem dX7_sign_18 : decode cX7_sign 18 = .ok (.goto 5, 3) := by decide +kernel
theorem dX7_sign_21 : decode cX7_sign 21 = .ok (.bipush (-2), 2) := by decide +kernel
theorem dX7_sign_23 : decode cX7_sign 23 = .ok (.ireturn, 1) := by decide +kernel
theorem dX7_lose_0 : decode cX7_lose 0 = .ok (.iload_n 1, 1) := by decide +kernel
theorem dX7_lose_1 : decode cX7_lose 1 = .ok (.iconst 0, 1) := by decide +kernel
theorem dX7_lose_2 : decode cX7_lose 2 = .ok (.iconst 2, 1) := by decide +kernel
theorem dX7_lose_3 : decode cX7_lose 3 = .ok (.invokestatic 90, 3) := by decide +kernel
theorem dX7_lose_6 : decode cX7_lose 6 = .ok (.ifCond .eq 13, 3) := by decide +kernel
theorem dX7_lose_9 : decode cX7_lose 9 = .ok (.iload_n 2, 1) := by decide +kernel
theorem dX7_lose_10 : decode cX7_lose 10 = .ok (.iconst 0, 1) := by decide +kernel
theorem dX7_lose_11 : decode cX7_lose 11 = .ok (.bipush 50, 2) := by decide +kernel
theorem dX7_lose_13 : decode cX7_lose 13 = .ok (.invokestatic 90, 3) := by decide +kernel
theorem dX7_lose_16 : decode cX7_lose 16 = .ok (.ifCond .ne 6, 3) := by decide +kernel
theorem dX7_lose_19 : decode cX7_lose 19 = .ok (.bipush (-2), 2) := by decide +kernel
theorem dX7_lose_21 : decode cX7_lose 21 = .ok (.ireturn, 1) := by decide +kernel
theorem dX7_lose_22 : decode cX7_lose 22 = .ok (.aload_n 0, 1) := by decide +kernel
theorem dX7_lose_23 : decode cX7_lose 23 = .ok (.getfield 49, 3) := by decide +kernel
theorem dX7_lose_26 : decode cX7_lose 26 = .ok (.getfield 183, 3) := by decide +kernel
theorem dX7_lose_29 : decode cX7_lose 29 = .ok (.iload_n 1, 1) := by decide +kernel
theorem dX7_lose_30 : decode cX7_lose 30 = .ok (.iload_n 2, 1) := by decide +kernel
theorem dX7_lose_31 : decode cX7_lose 31 = .ok (.iastore, 1) := by decide +kernel
theorem dX7_lose_32 : decode cX7_lose 32 = .ok (.iconst 1, 1) := by decide +kernel
theorem dX7_lose_33 : decode cX7_lose 33 = .ok (.ireturn, 1) := by decide +kernel
theorem dX7_rule_0 : decode cX7_rule 0 = .ok (.iload_n 1, 1) := by decide +kernel
theorem dX7_rule_1 : decode cX7_rule 1 = .ok (.iconst 0, 1) := by decide +kernel
theorem dX7_rule_2 : decode cX7_rule 2 = .ok (.iconst 2, 1) := by decide +kernel
theorem dX7_rule_3 : decode cX7_rule 3 = .ok (.invokestatic 90, 3) := by decide +kernel
theorem dX7_rule_6 : decode cX7_rule 6 = .ok (.ifCond .eq 14, 3) := by decide +kernel
theorem dX7_rule_9 : decode cX7_rule 9 = .ok (.iload_n 3, 1) := by decide +kernel
theorem dX7_rule_10 : decode cX7_rule 10 = .ok (.iconst 0, 1) := by decide +kernel
theorem dX7_rule_11 : decode cX7_rule 11 = .ok (.sipush 1000, 3) := by decide +kernel
theorem dX7_rule_14 : decode cX7_rule 14 = .ok (.invokestatic 90, 3) := by decide +kernel
theorem dX7_rule_17 : decode cX7_rule 17 = .ok (.ifCond .ne 6, 3) := by decide +kernel
theorem dX7_rule_20 : decode cX7_rule 20 = .ok (.bipush (-2), 2) := by decide +kernel
theorem dX7_rule_22 : decode cX7_rule 22 = .ok (.ireturn, 1) := by decide +kernel
theorem dX7_rule_23 : decode cX7_rule 23 = .ok (.iload 4, 2) := by decide +kernel
theorem dX7_rule_25 : decode cX7_rule 25 = .ok (.iconst 0, 1) := by decide +kernel
theorem dX7_rule_26 : decode cX7_rule 26 = .ok (.iconst 2, 1) := by decide +kernel
theorem dX7_rule_27 : decode cX7_rule 27 = .ok (.invokestatic 90, 3) := by decide +kernel
theorem dX7_rule_30 : decode cX7_rule 30 = .ok (.ifCond .ne 6, 3) := by decide +kernel
theorem dX7_rule_33 : decode cX7_rule 33 = .ok (.bipush (-2), 2) := by decide +kernel
theorem dX7_rule_35 : decode cX7_rule 35 = .ok (.ireturn, 1) := by decide +kernel
theorem dX7_rule_36 : decode cX7_rule 36 = .ok (.aload_n 0, 1) := by decide +kernel
theorem dX7_rule_37 : decode cX7_rule 37 = .ok (.getfield 53, 3) := by decide +kernel
theorem dX7_rule_40 : decode cX7_rule 40 = .ok (.invokevirtual 101, 3) := by decide +kernel
theorem dX7_rule_43 : decode cX7_rule 43 = .ok (.ifCond .eq 6, 3) := by decide +kernel
theorem dX7_rule_46 : decode cX7_rule 46 = .ok (.bipush (-4), 2) := by decide +kernel
theorem dX7_rule_48 : decode cX7_rule 48 = .ok (.ireturn, 1) := by decide +kernel
theorem dX7_rule_49 : decode cX7_rule 49 = .ok (.aload_n 0, 1) := by decide +kernel
theorem dX7_rule_50 : decode cX7_rule 50 = .ok (.getfield 53, 3) := by decide +kernel
theorem dX7_rule_53 : decode cX7_rule 53 = .ok (.invokevirtual 186, 3) := by decide +kernel
theorem dX7_rule_56 : decode cX7_rule 56 = .ok (.istore 5, 2) := by decide +kernel
theorem dX7_rule_58 : decode cX7_rule 58 = .ok (.aload_n 0, 1) := by decide +kernel
theorem dX7_rule_59 : decode cX7_rule 59 = .ok (.getfield 53, 3) := by decide +kernel
theorem dX7_rule_62 : decode cX7_rule 62 = .ok (.iload 5, 2) := by decide +kernel
theorem dX7_rule_64 : decode cX7_rule 64 = .ok (.iconst 0, 1) := by decide +kernel
theorem dX7_rule_65 : decode cX7_rule 65 = .ok (.iload_n 1, 1) := by decide +kernel
theorem dX7_rule_66 : decode cX7_rule 66 = .ok (.invokevirtual 86, 3) := by decide +kernel
theorem dX7_rule_69 : decode cX7_rule 69 = .ok (.aload_n 0, 1) := by decide +kernel
theorem dX7_rule_70 : decode cX7_rule 70 = .ok (.getfield 53, 3) := by decide +kernel
theorem dX7_rule_73 : decode cX7_rule 73 = .ok (.iload 5, 2) := by decide +kernel
theorem dX7_rule_75 : decode cX7_rule 75 = .ok (.iconst 1, 1) := by decide +kernel
theorem dX7_rule_76 : decode cX7_rule 76 = .ok (.iload_n 2, 1) := by decide +kernel
theorem dX7_rule_77 : decode cX7_rule 77 = .ok (.ifCond .eq 7, 3) := by decide +kernel
theorem dX7_rule_80 : decode cX7_rule 80 = .ok (.iconst 1, 1) := by decide +kernel
theorem dX7_rule_81 : decode cX7_rule 81 = .ok (.goto 4, 3) := by decide +kernel
theorem dX7_rule_84 : decode cX7_rule 84 = .ok (.iconst 0, 1) := by decide +kernel
theorem dX7_rule_85 : decode cX7_rule 85 = .ok (.invokevirtual 86, 3) := by decide +kernel
theorem dX7_rule_88 : decode cX7_rule 88 = .ok (.aload_n 0, 1) := by decide +kernel
theorem dX7_rule_89 : decode cX7_rule 89 = .ok (.getfield 53, 3) := by decide +kernel
theorem dX7_rule_92 : decode cX7_rule 92 = .ok (.iload 5, 2) := by decide +kernel
theorem dX7_rule_94 : decode cX7_rule 94 = .ok (.iconst 2, 1) := by decide +kernel
theorem dX7_rule_95 : decode cX7_rule 95 = .ok (.iload_n 3, 1) := by decide +kernel
theorem dX7_rule_96 : decode cX7_rule 96 = .ok (.invokevirtual 86, 3) := by decide +kernel
theorem dX7_rule_99 : decode cX7_rule 99 = .ok (.aload_n 0, 1) := by decide +kernel
theorem dX7_rule_100 : decode cX7_rule 100 = .ok (.getfield 53, 3) := by decide +kernel
theorem dX7_rule_103 : decode cX7_rule 103 = .ok (.iload 5, 2) := by decide +kernel
theorem dX7_rule_105 : decode cX7_rule 105 = .ok (.iconst 3, 1) := by decide +kernel
theorem dX7_rule_106 : decode cX7_rule 106 = .ok (.iload 4, 2) := by decide +kernel
theorem dX7_rule_108 : decode cX7_rule 108 = .ok (.invokevirtual 86, 3) := by decide +kernel
theorem dX7_rule_111 : decode cX7_rule 111 = .ok (.iload 5, 2) := by decide +kernel
theorem dX7_rule_113 : decode cX7_rule 113 = .ok (.ireturn, 1) := by decide +kernel
theorem dX7_unrule_0 : decode cX7_unrule 0 = .ok (.aload_n 0, 1) := by decide +kernel
theorem dX7_unrule_1 : decode cX7_unrule 1 = .ok (.getfield 53, 3) := by decide +kernel
theorem dX7_unrule_4 : decode cX7_unrule 4 = .ok (.getfield 109, 3) := by decide +kernel
theorem dX7_unrule_7 : decode cX7_unrule 7 = .ok (.istore_n 1, 1) := by decide +kernel
theorem dX7_unrule_8 : decode cX7_unrule 8 = .ok (.aload_n 0, 1) := by decide +kernel
theorem dX7_unrule_9 : decode cX7_unrule 9 = .ok (.getfield 53, 3) := by decide +kernel
theorem dX7_unrule_12 : decode cX7_unrule 12 = .ok (.iconst 0, 1) := by decide +kernel
theorem dX7_unrule_13 : decode cX7_unrule 13 = .ok (.putfield 109, 3) := by decide +kernel
theorem dX7_unrule_16 : decode cX7_unrule 16 = .ok (.iload_n 1, 1) := by decide +kernel
theorem dX7_unrule_17 : decode cX7_unrule 17 = .ok (.ireturn, 1) := by decide +kernel
theorem dX7_forge_0 : decode cX7_forge 0 = .ok (.iload_n 1, 1) := by decide +kernel
theorem dX7_forge_1 : decode cX7_forge 1 = .ok (.iconst 0, 1) := by decide +kernel
theorem dX7_forge_2 : decode cX7_forge 2 = .ok (.bipush 15, 2) := by decide +kernel
theorem dX7_forge_4 : decode cX7_forge 4 = .ok (.invokestatic 90, 3) := by decide +kernel
theorem dX7_forge_7 : decode cX7_forge 7 = .ok (.ifCond .eq 14, 3) := by decide +kernel
theorem dX7_forge_10 : decode cX7_forge 10 = .ok (.iload_n 2, 1) := by decide +kernel
theorem dX7_forge_11 : decode cX7_forge 11 = .ok (.iconst 0, 1) := by decide +kernel
theorem dX7_forge_12 : decode cX7_forge 12 = .ok (.sipush 2000, 3) := by decide +kernel
theorem dX7_forge_15 : decode cX7_forge 15 = .ok (.invokestatic 90, 3) := by decide +kernel
theorem dX7_forge_18 : decode cX7_forge 18 = .ok (.ifCond .ne 6, 3) := by decide +kernel
theorem dX7_forge_21 : decode cX7_forge 21 = .ok (.bipush (-2), 2) := by decide +kernel
theorem dX7_forge_23 : decode cX7_forge 23 = .ok (.ireturn, 1) := by decide +kernel
theorem dX7_forge_24 : decode cX7_forge 24 = .ok (.iload_n 3, 1) := by decide +kernel
theorem dX7_forge_25 : decode cX7_forge 25 = .ok (.iconst 1, 1) := by decide +kernel
theorem dX7_forge_26 : decode cX7_forge 26 = .ok (.bipush 50, 2) := by decide +kernel
theorem dX7_forge_28 : decode cX7_forge 28 = .ok (.invokestatic 90, 3) := by decide +kernel
theorem dX7_forge_31 : decode cX7_forge 31 = .ok (.ifCond .ne 6, 3) := by decide +kernel
theorem dX7_forge_34 : decode cX7_forge 34 = .ok (.bipush (-2), 2) := by decide +kernel
theorem dX7_forge_36 : decode cX7_forge 36 = .ok (.ireturn, 1) := by decide +kernel
theorem dX7_forge_37 : decode cX7_forge 37 = .ok (.aload_n 0, 1) := by decide +kernel
theorem dX7_forge_38 : decode cX7_forge 38 = .ok (.getfield 56, 3) := by decide +kernel
theorem dX7_forge_41 : decode cX7_forge 41 = .ok (.invokevirtual 101, 3) := by decide +kernel
theorem dX7_forge_44 : decode cX7_forge 44 = .ok (.ifCond .eq 6, 3) := by decide +kernel
theorem dX7_forge_47 : decode cX7_forge 47 = .ok (.bipush (-4), 2) := by decide +kernel
theorem dX7_forge_49 : decode cX7_forge 49 = .ok (.ireturn, 1) := by decide +kernel
theorem dX7_forge_50 : decode cX7_forge 50 = .ok (.aload_n 0, 1) := by decide +kernel
theorem dX7_forge_51 : decode cX7_forge 51 = .ok (.getfield 56, 3) := by decide +kernel
theorem dX7_forge_54 : decode cX7_forge 54 = .ok (.invokevirtual 186, 3) := by decide +kernel
theorem dX7_forge_57 : decode cX7_forge 57 = .ok (.istore 4, 2) := by decide +kernel
theorem dX7_forge_59 : decode cX7_forge 59 = .ok (.aload_n 0, 1) := by decide +kernel
theorem dX7_forge_60 : decode cX7_forge 60 = .ok (.getfield 56, 3) := by decide +kernel
theorem dX7_forge_63 : decode cX7_forge 63 = .ok (.iload 4, 2) := by decide +kernel
theorem dX7_forge_65 : decode cX7_forge 65 = .ok (.iconst 0, 1) := by decide +kernel
theorem dX7_forge_66 : decode cX7_forge 66 = .ok (.iload_n 1, 1) := by decide +kernel
theorem dX7_forge_67 : decode cX7_forge 67 = .ok (.invokevirtual 86, 3) := by decide +kernel
theorem dX7_forge_70 : decode cX7_forge 70 = .ok (.aload_n 0, 1) := by decide +kernel
theorem dX7_forge_71 : decode cX7_forge 71 = .ok (.getfield 56, 3) := by decide +kernel
theorem dX7_forge_74 : decode cX7_forge 74 = .ok (.iload 4, 2) := by decide +kernel
theorem dX7_forge_76 : decode cX7_forge 76 = .ok (.iconst 1, 1) := by decide +kernel
theorem dX7_forge_77 : decode cX7_forge 77 = .ok (.iload_n 2, 1) := by decide +kernel
theorem dX7_forge_78 : decode cX7_forge 78 = .ok (.invokevirtual 86, 3) := by decide +kernel
theorem dX7_forge_81 : decode cX7_forge 81 = .ok (.aload_n 0, 1) := by decide +kernel
theorem dX7_forge_82 : decode cX7_forge 82 = .ok (.getfield 56, 3) := by decide +kernel
theorem dX7_forge_85 : decode cX7_forge 85 = .ok (.iload 4, 2) := by decide +kernel
theorem dX7_forge_87 : decode cX7_forge 87 = .ok (.iconst 2, 1) := by decide +kernel
theorem dX7_forge_88 : decode cX7_forge 88 = .ok (.iload_n 3, 1) := by decide +kernel
theorem dX7_forge_89 : decode cX7_forge 89 = .ok (.invokevirtual 86, 3) := by decide +kernel
theorem dX7_forge_92 : decode cX7_forge 92 = .ok (.iload 4, 2) := by decide +kernel
theorem dX7_forge_94 : decode cX7_forge 94 = .ok (.ireturn, 1) := by decide +kernel
theorem dX7_sale_0 : decode cX7_sale 0 = .ok (.aload_n 0, 1) := by decide +kernel
theorem dX7_sale_1 : decode cX7_sale 1 = .ok (.getfield 62, 3) := by decide +kernel
theorem dX7_sale_4 : decode cX7_sale 4 = .ok (.aload_n 0, 1) := by decide +kernel
theorem dX7_sale_5 : decode cX7_sale 5 = .ok (.getfield 42, 3) := by decide +kernel
theorem dX7_sale_8 : decode cX7_sale 8 = .ok (.aload_n 0, 1) := by decide +kernel
theorem dX7_sale_9 : decode cX7_sale 9 = .ok (.getfield 56, 3) := by decide +kernel
theorem dX7_sale_12 : decode cX7_sale 12 = .ok (.invokevirtual 189, 3) := by decide +kernel
theorem dX7_sale_15 : decode cX7_sale 15 = .ok (.aload_n 0, 1) := by decide +kernel
theorem dX7_sale_16 : decode cX7_sale 16 = .ok (.getfield 62, 3) := by decide +kernel
theorem dX7_sale_19 : decode cX7_sale 19 = .ok (.getfield 193, 3) := by decide +kernel
theorem dX7_sale_22 : decode cX7_sale 22 = .ok (.ireturn, 1) := by decide +kernel
theorem dX7_sell_0 : decode cX7_sell 0 = .ok (.aload_n 0, 1) := by decide +kernel
theorem dX7_sell_1 : decode cX7_sell 1 = .ok (.getfield 62, 3) := by decide +kernel
theorem dX7_sell_4 : decode cX7_sell 4 = .ok (.aload_n 0, 1) := by decide +kernel
theorem dX7_sell_5 : decode cX7_sell 5 = .ok (.getfield 42, 3) := by decide +kernel
theorem dX7_sell_8 : decode cX7_sell 8 = .ok (.aload_n 0, 1) := by decide +kernel
theorem dX7_sell_9 : decode cX7_sell 9 = .ok (.getfield 56, 3) := by decide +kernel
theorem dX7_sell_12 : decode cX7_sell 12 = .ok (.invokevirtual 189, 3) := by decide +kernel
theorem dX7_sell_15 : decode cX7_sell 15 = .ok (.iconst 0, 1) := by decide +kernel
theorem dX7_sell_16 : decode cX7_sell 16 = .ok (.istore_n 1, 1) := by decide +kernel
theorem dX7_sell_17 : decode cX7_sell 17 = .ok (.iconst 0, 1) := by decide +kernel
theorem dX7_sell_18 : decode cX7_sell 18 = .ok (.istore_n 2, 1) := by decide +kernel
theorem dX7_sell_19 : decode cX7_sell 19 = .ok (.iload_n 2, 1) := by decide +kernel
theorem dX7_sell_20 : decode cX7_sell 20 = .ok (.aload_n 0, 1) := by decide +kernel
theorem dX7_sell_21 : decode cX7_sell 21 = .ok (.getfield 62, 3) := by decide +kernel
theorem dX7_sell_24 : decode cX7_sell 24 = .ok (.getfield 196, 3) := by decide +kernel
theorem dX7_sell_27 : decode cX7_sell 27 = .ok (.if_icmp .ge 80, 3) := by decide +kernel
theorem dX7_sell_30 : decode cX7_sell 30 = .ok (.aload_n 0, 1) := by decide +kernel
theorem dX7_sell_31 : decode cX7_sell 31 = .ok (.getfield 62, 3) := by decide +kernel
theorem dX7_sell_34 : decode cX7_sell 34 = .ok (.getfield 199, 3) := by decide +kernel
theorem dX7_sell_37 : decode cX7_sell 37 = .ok (.iload_n 2, 1) := by decide +kernel
theorem dX7_sell_38 : decode cX7_sell 38 = .ok (.iaload, 1) := by decide +kernel
theorem dX7_sell_39 : decode cX7_sell 39 = .ok (.istore_n 3, 1) := by decide +kernel
theorem dX7_sell_40 : decode cX7_sell 40 = .ok (.iload_n 3, 1) := by decide +kernel
theorem dX7_sell_41 : decode cX7_sell 41 = .ok (.iconst (-1), 1) := by decide +kernel
theorem dX7_sell_42 : decode cX7_sell 42 = .ok (.if_icmp .ne 6, 3) := by decide +kernel
theorem dX7_sell_45 : decode cX7_sell 45 = .ok (.goto 56, 3) := by decide +kernel
theorem dX7_sell_48 : decode cX7_sell 48 = .ok (.aload_n 0, 1) := by decide +kernel
theorem dX7_sell_49 : decode cX7_sell 49 = .ok (.getfield 56, 3) := by decide +kernel
theorem dX7_sell_52 : decode cX7_sell 52 = .ok (.iload_n 3, 1) := by decide +kernel
theorem dX7_sell_53 : decode cX7_sell 53 = .ok (.iconst 1, 1) := by decide +kernel
theorem dX7_sell_54 : decode cX7_sell 54 = .ok (.invokevirtual 112, 3) := by decide +kernel
theorem dX7_sell_57 : decode cX7_sell 57 = .ok (.istore 4, 2) := by decide +kernel
theorem dX7_sell_59 : decode cX7_sell 59 = .ok (.aload_n 0, 1) := by decide +kernel
theorem dX7_sell_60 : decode cX7_sell 60 = .ok (.getfield 56, 3) := by decide +kernel
theorem dX7_sell_63 : decode cX7_sell 63 = .ok (.iload_n 3, 1) := by decide +kernel
theorem dX7_sell_64 : decode cX7_sell 64 = .ok (.iconst 1, 1) := by decide +kernel
theorem dX7_sell_65 : decode cX7_sell 65 = .ok (.iload 4, 2) := by decide +kernel
theorem dX7_sell_67 : decode cX7_sell 67 = .ok (.aload_n 0, 1) := by decide +kernel
theorem dX7_sell_68 : decode cX7_sell 68 = .ok (.getfield 62, 3) := by decide +kernel
theorem dX7_sell_71 : decode cX7_sell 71 = .ok (.getfield 202, 3) := by decide +kernel
theorem dX7_sell_74 : decode cX7_sell 74 = .ok (.iload_n 2, 1) := by decide +kernel
theorem dX7_sell_75 : decode cX7_sell 75 = .ok (.iaload, 1) := by decide +kernel
theorem dX7_sell_76 : decode cX7_sell 76 = .ok (.isub, 1) := by decide +kernel
theorem dX7_sell_77 : decode cX7_sell 77 = .ok (.invokevirtual 86, 3) := by decide +kernel
theorem dX7_sell_80 : decode cX7_sell 80 = .ok (.aload_n 0, 1) := by decide +kernel
theorem dX7_sell_81 : decode cX7_sell 81 = .ok (.getfield 42, 3) := by decide +kernel
theorem dX7_sell_84 : decode cX7_sell 84 = .ok (.aload_n 0, 1) := by decide +kernel
theorem dX7_sell_85 : decode cX7_sell 85 = .ok (.getfield 62, 3) := by decide +kernel
theorem dX7_sell_88 : decode cX7_sell 88 = .ok (.getfield 205, 3) := by decide +kernel
theorem dX7_sell_91 : decode cX7_sell 91 = .ok (.iload_n 2, 1) := by decide +kernel
theorem dX7_sell_92 : decode cX7_sell 92 = .ok (.iaload, 1) := by decide +kernel
theorem dX7_sell_93 : decode cX7_sell 93 = .ok (.iconst 5, 1) := by decide +kernel
theorem dX7_sell_94 : decode cX7_sell 94 = .ok (.iload_n 3, 1) := by decide +kernel
theorem dX7_sell_95 : decode cX7_sell 95 = .ok (.invokevirtual 86, 3) := by decide +kernel
theorem dX7_sell_98 : decode cX7_sell 98 = .ok (.iinc 1 1, 3) := by decide +kernel
theorem dX7_sell_101 : decode cX7_sell 101 = .ok (.iinc 2 1, 3) := by decide +kernel
theorem dX7_sell_104 : decode cX7_sell 104 = .ok (.goto (-85), 3) := by decide +kernel
theorem dX7_sell_107 : decode cX7_sell 107 = .ok (.aload_n 0, 1) := by decide +kernel
theorem dX7_sell_108 : decode cX7_sell 108 = .ok (.dup, 1) := by decide +kernel
theorem dX7_sell_109 : decode cX7_sell 109 = .ok (.getfield 79, 3) := by decide +kernel
theorem dX7_sell_112 : decode cX7_sell 112 = .ok (.iload_n 1, 1) := by decide +kernel
theorem dX7_sell_113 : decode cX7_sell 113 = .ok (.iadd, 1) := by decide +kernel
theorem dX7_sell_114 : decode cX7_sell 114 = .ok (.putfield 79, 3) := by decide +kernel
theorem dX7_sell_117 : decode cX7_sell 117 = .ok (.aload_n 0, 1) := by decide +kernel
theorem dX7_sell_118 : decode cX7_sell 118 = .ok (.dup, 1) := by decide +kernel
theorem dX7_sell_119 : decode cX7_sell 119 = .ok (.getfield 83, 3) := by decide +kernel
theorem dX7_sell_122 : decode cX7_sell 122 = .ok (.aload_n 0, 1) := by decide +kernel
theorem dX7_sell_123 : decode cX7_sell 123 = .ok (.getfield 62, 3) := by decide +kernel
theorem dX7_sell_126 : decode cX7_sell 126 = .ok (.getfield 193, 3) := by decide +kernel
theorem dX7_sell_129 : decode cX7_sell 129 = .ok (.iadd, 1) := by decide +kernel
theorem dX7_sell_130 : decode cX7_sell 130 = .ok (.putfield 83, 3) := by decide +kernel
theorem dX7_sell_133 : decode cX7_sell 133 = .ok (.iload_n 1, 1) := by decide +kernel
theorem dX7_sell_134 : decode cX7_sell 134 = .ok (.ireturn, 1) := by decide +kernel
theorem dX7_month_0 : decode cX7_month 0 = .ok (.iload_n 1, 1) := by decide +kernel
theorem dX7_month_1 : decode cX7_month 1 = .ok (.iconst 0, 1) := by decide +kernel
theorem dX7_month_2 : decode cX7_month 2 = .ok (.bipush 11, 2) := by decide +kernel
theorem dX7_month_4 : decode cX7_month 4 = .ok (.invokestatic 90, 3) := by decide +kernel
theorem dX7_month_7 : decode cX7_month 7 = .ok (.ifCond .ne 6, 3) := by decide +kernel
theorem dX7_month_10 : decode cX7_month 10 = .ok (.bipush (-2), 2) := by decide +kernel
theorem dX7_month_12 : decode cX7_month 12 = .ok (.ireturn, 1) := by decide +kernel
theorem dX7_month_13 : decode cX7_month 13 = .ok (.iload_n 2, 1) := by decide +kernel
theorem dX7_month_14 : decode cX7_month 14 = .ok (.iconst 0, 1) := by decide +kernel
theorem dX7_month_15 : decode cX7_month 15 = .ok (.iconst 4, 1) := by decide +kernel
theorem dX7_month_16 : decode cX7_month 16 = .ok (.invokestatic 90, 3) := by decide +kernel
theorem dX7_month_19 : decode cX7_month 19 = .ok (.ifCond .eq 14, 3) := by decide +kernel
theorem dX7_month_22 : decode cX7_month 22 = .ok (.iload_n 3, 1) := by decide +kernel
theorem dX7_month_23 : decode cX7_month 23 = .ok (.iconst 0, 1) := by decide +kernel
theorem dX7_month_24 : decode cX7_month 24 = .ok (.sipush 1000, 3) := by decide +kernel
theorem dX7_month_27 : decode cX7_month 27 = .ok (.invokestatic 90, 3) := by decide +kernel
theorem dX7_month_30 : decode cX7_month 30 = .ok (.ifCond .ne 6, 3) := by decide +kernel
theorem dX7_month_33 : decode cX7_month 33 = .ok (.bipush (-2), 2) := by decide +kernel
theorem dX7_month_35 : decode cX7_month 35 = .ok (.ireturn, 1) := by decide +kernel
theorem dX7_month_36 : decode cX7_month 36 = .ok (.aload_n 0, 1) := by decide +kernel
theorem dX7_month_37 : decode cX7_month 37 = .ok (.getfield 66, 3) := by decide +kernel
theorem dX7_month_40 : decode cX7_month 40 = .ok (.iload_n 1, 1) := by decide +kernel
theorem dX7_month_41 : decode cX7_month 41 = .ok (.iconst 0, 1) := by decide +kernel
theorem dX7_month_42 : decode cX7_month 42 = .ok (.iload_n 2, 1) := by decide +kernel
theorem dX7_month_43 : decode cX7_month 43 = .ok (.invokevirtual 86, 3) := by decide +kernel
theorem dX7_month_46 : decode cX7_month 46 = .ok (.aload_n 0, 1) := by decide +kernel
theorem dX7_month_47 : decode cX7_month 47 = .ok (.getfield 66, 3) := by decide +kernel
theorem dX7_month_50 : decode cX7_month 50 = .ok (.iload_n 1, 1) := by decide +kernel
theorem dX7_month_51 : decode cX7_month 51 = .ok (.iconst 1, 1) := by decide +kernel
theorem dX7_month_52 : decode cX7_month 52 = .ok (.iload_n 3, 1) := by decide +kernel
theorem dX7_month_53 : decode cX7_month 53 = .ok (.invokevirtual 86, 3) := by decide +kernel
theorem dX7_month_56 : decode cX7_month 56 = .ok (.iconst 1, 1) := by decide +kernel
theorem dX7_month_57 : decode cX7_month 57 = .ok (.ireturn, 1) := by decide +kernel
theorem dX7_pace_0 : decode cX7_pace 0 = .ok (.iload_n 1, 1) := by decide +kernel
theorem dX7_pace_1 : decode cX7_pace 1 = .ok (.iconst 0, 1) := by decide +kernel
theorem dX7_pace_2 : decode cX7_pace 2 = .ok (.iconst 4, 1) := by decide +kernel
theorem dX7_pace_3 : decode cX7_pace 3 = .ok (.invokestatic 90, 3) := by decide +kernel
theorem dX7_pace_6 : decode cX7_pace 6 = .ok (.ifCond .eq 14, 3) := by decide +kernel
theorem dX7_pace_9 : decode cX7_pace 9 = .ok (.iload_n 2, 1) := by decide +kernel
theorem dX7_pace_10 : decode cX7_pace 10 = .ok (.iconst 0, 1) := by decide +kernel
theorem dX7_pace_11 : decode cX7_pace 11 = .ok (.sipush 1000, 3) := by decide +kernel
theorem dX7_pace_14 : decode cX7_pace 14 = .ok (.invokestatic 90, 3) := by decide +kernel
theorem dX7_pace_17 : decode cX7_pace 17 = .ok (.ifCond .ne 6, 3) := by decide +kernel
theorem dX7_pace_20 : decode cX7_pace 20 = .ok (.bipush (-2), 2) := by decide +kernel
theorem dX7_pace_22 : decode cX7_pace 22 = .ok (.ireturn, 1) := by decide +kernel
theorem dX7_pace_23 : decode cX7_pace 23 = .ok (.iload_n 3, 1) := by decide +kernel
theorem dX7_pace_24 : decode cX7_pace 24 = .ok (.iconst 0, 1) := by decide +kernel
theorem dX7_pace_25 : decode cX7_pace 25 = .ok (.sipush 1000, 3) := by decide +kernel
theorem dX7_pace_28 : decode cX7_pace 28 = .ok (.invokestatic 90, 3) := by decide +kernel
theorem dX7_pace_31 : decode cX7_pace 31 = .ok (.ifCond .eq 15, 3) := by decide +kernel
theorem dX7_pace_34 : decode cX7_pace 34 = .ok (.iload 4, 2) := by decide +kernel
theorem dX7_pace_36 : decode cX7_pace 36 = .ok (.iconst 0, 1) := by decide +kernel
theorem dX7_pace_37 : decode cX7_pace 37 = .ok (.sipush 1000, 3) := by decide +kernel
theorem dX7_pace_40 : decode cX7_pace 40 = .ok (.invokestatic 90, 3) := by decide +kernel
theorem dX7_pace_43 : decode cX7_pace 43 = .ok (.ifCond .ne 6, 3) := by decide +kernel
theorem dX7_pace_46 : decode cX7_pace 46 = .ok (.bipush (-2), 2) := by decide +kernel
theorem dX7_pace_48 : decode cX7_pace 48 = .ok (.ireturn, 1) := by decide +kernel
theorem dX7_pace_49 : decode cX7_pace 49 = .ok (.aload_n 0, 1) := by decide +kernel
theorem dX7_pace_50 : decode cX7_pace 50 = .ok (.getfield 69, 3) := by decide +kernel
theorem dX7_pace_53 : decode cX7_pace 53 = .ok (.iload_n 1, 1) := by decide +kernel
theorem dX7_pace_54 : decode cX7_pace 54 = .ok (.iconst 0, 1) := by decide +kernel
theorem dX7_pace_55 : decode cX7_pace 55 = .ok (.iload_n 2, 1) := by decide +kernel
theorem dX7_pace_56 : decode cX7_pace 56 = .ok (.invokevirtual 86, 3) := by decide +kernel
theorem dX7_pace_59 : decode cX7_pace 59 = .ok (.aload_n 0, 1) := by decide +kernel
theorem dX7_pace_60 : decode cX7_pace 60 = .ok (.getfield 69, 3) := by decide +kernel
theorem dX7_pace_63 : decode cX7_pace 63 = .ok (.iload_n 1, 1) := by decide +kernel
theorem dX7_pace_64 : decode cX7_pace 64 = .ok (.iconst 1, 1) := by decide +kernel
theorem dX7_pace_65 : decode cX7_pace 65 = .ok (.iload_n 3, 1) := by decide +kernel
theorem dX7_pace_66 : decode cX7_pace 66 = .ok (.invokevirtual 86, 3) := by decide +kernel
theorem dX7_pace_69 : decode cX7_pace 69 = .ok (.aload_n 0, 1) := by decide +kernel
theorem dX7_pace_70 : decode cX7_pace 70 = .ok (.getfield 69, 3) := by decide +kernel
theorem dX7_pace_73 : decode cX7_pace 73 = .ok (.iload_n 1, 1) := by decide +kernel
theorem dX7_pace_74 : decode cX7_pace 74 = .ok (.iconst 2, 1) := by decide +kernel
theorem dX7_pace_75 : decode cX7_pace 75 = .ok (.iload 4, 2) := by decide +kernel
theorem dX7_pace_77 : decode cX7_pace 77 = .ok (.invokevirtual 86, 3) := by decide +kernel
theorem dX7_pace_80 : decode cX7_pace 80 = .ok (.iconst 1, 1) := by decide +kernel
theorem dX7_pace_81 : decode cX7_pace 81 = .ok (.ireturn, 1) := by decide +kernel
theorem dX7_plan_0 : decode cX7_plan 0 = .ok (.iload_n 1, 1) := by decide +kernel
theorem dX7_plan_1 : decode cX7_plan 1 = .ok (.iconst 0, 1) := by decide +kernel
theorem dX7_plan_2 : decode cX7_plan 2 = .ok (.bipush 11, 2) := by decide +kernel
theorem dX7_plan_4 : decode cX7_plan 4 = .ok (.invokestatic 90, 3) := by decide +kernel
theorem dX7_plan_7 : decode cX7_plan 7 = .ok (.ifCond .eq 13, 3) := by decide +kernel
theorem dX7_plan_10 : decode cX7_plan 10 = .ok (.iload_n 2, 1) := by decide +kernel
theorem dX7_plan_11 : decode cX7_plan 11 = .ok (.iconst 1, 1) := by decide +kernel
theorem dX7_plan_12 : decode cX7_plan 12 = .ok (.bipush 6, 2) := by decide +kernel
theorem dX7_plan_14 : decode cX7_plan 14 = .ok (.invokestatic 90, 3) := by decide +kernel
theorem dX7_plan_17 : decode cX7_plan 17 = .ok (.ifCond .ne 6, 3) := by decide +kernel
theorem dX7_plan_20 : decode cX7_plan 20 = .ok (.bipush (-2), 2) := by decide +kernel
theorem dX7_plan_22 : decode cX7_plan 22 = .ok (.ireturn, 1) := by decide +kernel
theorem dX7_plan_23 : decode cX7_plan 23 = .ok (.iload_n 3, 1) := by decide +kernel
theorem dX7_plan_24 : decode cX7_plan 24 = .ok (.iconst 0, 1) := by decide +kernel
theorem dX7_plan_25 : decode cX7_plan 25 = .ok (.sipush 10000, 3) := by decide +kernel
theorem dX7_plan_28 : decode cX7_plan 28 = .ok (.invokestatic 90, 3) := by decide +kernel
theorem dX7_plan_31 : decode cX7_plan 31 = .ok (.ifCond .eq 15, 3) := by decide +kernel
theorem dX7_plan_34 : decode cX7_plan 34 = .ok (.iload 4, 2) := by decide +kernel
theorem dX7_plan_36 : decode cX7_plan 36 = .ok (.iconst 0, 1) := by decide +kernel
theorem dX7_plan_37 : decode cX7_plan 37 = .ok (.sipush 10000, 3) := by decide +kernel
theorem dX7_plan_40 : decode cX7_plan 40 = .ok (.invokestatic 90, 3) := by decide +kernel
theorem dX7_plan_43 : decode cX7_plan 43 = .ok (.ifCond .ne 6, 3) := by decide +kernel
theorem dX7_plan_46 : decode cX7_plan 46 = .ok (.bipush (-2), 2) := by decide +kernel
theorem dX7_plan_48 : decode cX7_plan 48 = .ok (.ireturn, 1) := by decide +kernel
theorem dX7_plan_49 : decode cX7_plan 49 = .ok (.aload_n 0, 1) := by decide +kernel
theorem dX7_plan_50 : decode cX7_plan 50 = .ok (.getfield 75, 3) := by decide +kernel
theorem dX7_plan_53 : decode cX7_plan 53 = .ok (.aload_n 0, 1) := by decide +kernel
theorem dX7_plan_54 : decode cX7_plan 54 = .ok (.getfield 66, 3) := by decide +kernel
theorem dX7_plan_57 : decode cX7_plan 57 = .ok (.aload_n 0, 1) := by decide +kernel
theorem dX7_plan_58 : decode cX7_plan 58 = .ok (.getfield 69, 3) := by decide +kernel
theorem dX7_plan_61 : decode cX7_plan 61 = .ok (.iload_n 1, 1) := by decide +kernel
theorem dX7_plan_62 : decode cX7_plan 62 = .ok (.iload_n 2, 1) := by decide +kernel
theorem dX7_plan_63 : decode cX7_plan 63 = .ok (.invokevirtual 208, 3) := by decide +kernel
theorem dX7_plan_66 : decode cX7_plan 66 = .ok (.aload_n 0, 1) := by decide +kernel
theorem dX7_plan_67 : decode cX7_plan 67 = .ok (.getfield 75, 3) := by decide +kernel
theorem dX7_plan_70 : decode cX7_plan 70 = .ok (.aload_n 0, 1) := by decide +kernel
theorem dX7_plan_71 : decode cX7_plan 71 = .ok (.getfield 69, 3) := by decide +kernel
theorem dX7_plan_74 : decode cX7_plan 74 = .ok (.iload_n 3, 1) := by decide +kernel
theorem dX7_plan_75 : decode cX7_plan 75 = .ok (.iload 4, 2) := by decide +kernel
theorem dX7_plan_77 : decode cX7_plan 77 = .ok (.invokevirtual 212, 3) := by decide +kernel
theorem dX7_plan_80 : decode cX7_plan 80 = .ok (.ireturn, 1) := by decide +kernel
theorem dX7_paceAt_0 : decode cX7_paceAt 0 = .ok (.iload_n 1, 1) := by decide +kernel
theorem dX7_paceAt_1 : decode cX7_paceAt 1 = .ok (.iconst 0, 1) := by decide +kernel
theorem dX7_paceAt_2 : decode cX7_paceAt 2 = .ok (.aload_n 0, 1) := by decide +kernel
theorem dX7_paceAt_3 : decode cX7_paceAt 3 = .ok (.getfield 75, 3) := by decide +kernel
theorem dX7_paceAt_6 : decode cX7_paceAt 6 = .ok (.getfield 215, 3) := by decide +kernel
theorem dX7_paceAt_9 : decode cX7_paceAt 9 = .ok (.iconst 1, 1) := by decide +kernel
theorem dX7_paceAt_10 : decode cX7_paceAt 10 = .ok (.isub, 1) := by decide +kernel
theorem dX7_paceAt_11 : decode cX7_paceAt 11 = .ok (.invokestatic 90, 3) := by decide +kernel
theorem dX7_paceAt_14 : decode cX7_paceAt 14 = .ok (.ifCond .eq 15, 3) := by decide +kernel
theorem dX7_paceAt_17 : decode cX7_paceAt 17 = .ok (.aload_n 0, 1) := by decide +kernel
theorem dX7_paceAt_18 : decode cX7_paceAt 18 = .ok (.getfield 75, 3) := by decide +kernel
theorem dX7_paceAt_21 : decode cX7_paceAt 21 = .ok (.getfield 218, 3) := by decide +kernel
theorem dX7_paceAt_24 : decode cX7_paceAt 24 = .ok (.iload_n 1, 1) := by decide +kernel
theorem dX7_paceAt_25 : decode cX7_paceAt 25 = .ok (.iaload, 1) := by decide +kernel
theorem dX7_paceAt_26 : decode cX7_paceAt 26 = .ok (.goto 4, 3) := by decide +kernel
theorem dX7_paceAt_29 : decode cX7_paceAt 29 = .ok (.iconst (-1), 1) := by decide +kernel
theorem dX7_paceAt_30 : decode cX7_paceAt 30 = .ok (.ireturn, 1) := by decide +kernel
theorem dX7_count_0 : decode cX7_count 0 = .ok (.iload_n 1, 1) := by decide +kernel
theorem dX7_count_1 : decode cX7_count 1 = .ok (.tableswitch 84 0 5 #[39, 50, 58, 66, 74, 79], 39) := by decide +kernel
theorem dX7_count_40 : decode cX7_count 40 = .ok (.aload_n 0, 1) := by decide +kernel
theorem dX7_count_41 : decode cX7_count 41 = .ok (.getfield 19, 3) := by decide +kernel
theorem dX7_count_44 : decode cX7_count 44 = .ok (.getfield 98, 3) := by decide +kernel
theorem dX7_count_47 : decode cX7_count 47 = .ok (.getfield 109, 3) := by decide +kernel
theorem dX7_count_50 : decode cX7_count 50 = .ok (.ireturn, 1) := by decide +kernel
theorem dX7_count_51 : decode cX7_count 51 = .ok (.aload_n 0, 1) := by decide +kernel
theorem dX7_count_52 : decode cX7_count 52 = .ok (.getfield 42, 3) := by decide +kernel
theorem dX7_count_55 : decode cX7_count 55 = .ok (.getfield 109, 3) := by decide +kernel
theorem dX7_count_58 : decode cX7_count 58 = .ok (.ireturn, 1) := by decide +kernel
theorem dX7_count_59 : decode cX7_count 59 = .ok (.aload_n 0, 1) := by decide +kernel
theorem dX7_count_60 : decode cX7_count 60 = .ok (.getfield 53, 3) := by decide +kernel
theorem dX7_count_63 : decode cX7_count 63 = .ok (.getfield 109, 3) := by decide +kernel
theorem dX7_count_66 : decode cX7_count 66 = .ok (.ireturn, 1) := by decide +kernel
theorem dX7_count_67 : decode cX7_count 67 = .ok (.aload_n 0, 1) := by decide +kernel
theorem dX7_count_68 : decode cX7_count 68 = .ok (.getfield 56, 3) := by decide +kernel
theorem dX7_count_71 : decode cX7_count 71 = .ok (.getfield 109, 3) := by decide +kernel
theorem dX7_count_74 : decode cX7_count 74 = .ok (.ireturn, 1) := by decide +kernel
theorem dX7_count_75 : decode cX7_count 75 = .ok (.aload_n 0, 1) := by decide +kernel
theorem dX7_count_76 : decode cX7_count 76 = .ok (.getfield 79, 3) := by decide +kernel
theorem dX7_count_79 : decode cX7_count 79 = .ok (.ireturn, 1) := by decide +kernel
theorem dX7_count_80 : decode cX7_count 80 = .ok (.aload_n 0, 1) := by decide +kernel
theorem dX7_count_81 : decode cX7_count 81 = .ok (.getfield 83, 3) := by decide +kernel
theorem dX7_count_84 : decode cX7_count 84 = .ok (.ireturn, 1) := by decide +kernel
theorem dX7_count_85 : decode cX7_count 85 = .ok (.bipush (-2), 2) := by decide +kernel
theorem dX7_count_87 : decode cX7_count 87 = .ok (.ireturn, 1) := by decide +kernel
theorem dX7_digest_0 : decode cX7_digest 0 = .ok (.ldc2_w 219, 3) := by decide +kernel
theorem dX7_digest_3 : decode cX7_digest 3 = .ok (.lstore_n 1, 1) := by decide +kernel
theorem dX7_digest_4 : decode cX7_digest 4 = .ok (.iconst 0, 1) := by decide +kernel
theorem dX7_digest_5 : decode cX7_digest 5 = .ok (.istore_n 3, 1) := by decide +kernel
theorem dX7_digest_6 : decode cX7_digest 6 = .ok (.iload_n 3, 1) := by decide +kernel
theorem dX7_digest_7 : decode cX7_digest 7 = .ok (.bipush 6, 2) := by decide +kernel
theorem dX7_digest_9 : decode cX7_digest 9 = .ok (.if_icmp .ge 22, 3) := by decide +kernel
theorem dX7_digest_12 : decode cX7_digest 12 = .ok (.ldc2_w 221, 3) := by decide +kernel
theorem dX7_digest_15 : decode cX7_digest 15 = .ok (.lload_n 1, 1) := by decide +kernel
theorem dX7_digest_16 : decode cX7_digest 16 = .ok (.lmul, 1) := by decide +kernel
theorem dX7_digest_17 : decode cX7_digest 17 = .ok (.aload_n 0, 1) := by decide +kernel
theorem dX7_digest_18 : decode cX7_digest 18 = .ok (.iload_n 3, 1) := by decide +kernel
theorem dX7_digest_19 : decode cX7_digest 19 = .ok (.invokevirtual 223, 3) := by decide +kernel
theorem dX7_digest_22 : decode cX7_digest 22 = .ok (.i2l, 1) := by decide +kernel
theorem dX7_digest_23 : decode cX7_digest 23 = .ok (.ladd, 1) := by decide +kernel
theorem dX7_digest_24 : decode cX7_digest 24 = .ok (.lstore_n 1, 1) := by decide +kernel
theorem dX7_digest_25 : decode cX7_digest 25 = .ok (.iinc 3 1, 3) := by decide +kernel
theorem dX7_digest_28 : decode cX7_digest 28 = .ok (.goto (-22), 3) := by decide +kernel
theorem dX7_digest_31 : decode cX7_digest 31 = .ok (.iconst 0, 1) := by decide +kernel
theorem dX7_digest_32 : decode cX7_digest 32 = .ok (.istore_n 3, 1) := by decide +kernel
theorem dX7_digest_33 : decode cX7_digest 33 = .ok (.iload_n 3, 1) := by decide +kernel
theorem dX7_digest_34 : decode cX7_digest 34 = .ok (.bipush 12, 2) := by decide +kernel
theorem dX7_digest_36 : decode cX7_digest 36 = .ok (.if_icmp .ge 22, 3) := by decide +kernel
theorem dX7_digest_39 : decode cX7_digest 39 = .ok (.ldc2_w 221, 3) := by decide +kernel
theorem dX7_digest_42 : decode cX7_digest 42 = .ok (.lload_n 1, 1) := by decide +kernel
theorem dX7_digest_43 : decode cX7_digest 43 = .ok (.lmul, 1) := by decide +kernel
theorem dX7_digest_44 : decode cX7_digest 44 = .ok (.aload_n 0, 1) := by decide +kernel
theorem dX7_digest_45 : decode cX7_digest 45 = .ok (.iload_n 3, 1) := by decide +kernel
theorem dX7_digest_46 : decode cX7_digest 46 = .ok (.invokevirtual 226, 3) := by decide +kernel
theorem dX7_digest_49 : decode cX7_digest 49 = .ok (.i2l, 1) := by decide +kernel
theorem dX7_digest_50 : decode cX7_digest 50 = .ok (.ladd, 1) := by decide +kernel
theorem dX7_digest_51 : decode cX7_digest 51 = .ok (.lstore_n 1, 1) := by decide +kernel
theorem dX7_digest_52 : decode cX7_digest 52 = .ok (.iinc 3 1, 3) := by decide +kernel
theorem dX7_digest_55 : decode cX7_digest 55 = .ok (.goto (-22), 3) := by decide +kernel
theorem dX7_digest_58 : decode cX7_digest 58 = .ok (.iconst 0, 1) := by decide +kernel
theorem dX7_digest_59 : decode cX7_digest 59 = .ok (.istore_n 3, 1) := by decide +kernel
theorem dX7_digest_60 : decode cX7_digest 60 = .ok (.iload_n 3, 1) := by decide +kernel
theorem dX7_digest_61 : decode cX7_digest 61 = .ok (.bipush 6, 2) := by decide +kernel
theorem dX7_digest_63 : decode cX7_digest 63 = .ok (.if_icmp .ge 23, 3) := by decide +kernel
theorem dX7_digest_66 : decode cX7_digest 66 = .ok (.ldc2_w 221, 3) := by decide +kernel
theorem dX7_digest_69 : decode cX7_digest 69 = .ok (.lload_n 1, 1) := by decide +kernel
theorem dX7_digest_70 : decode cX7_digest 70 = .ok (.lmul, 1) := by decide +kernel
theorem dX7_digest_71 : decode cX7_digest 71 = .ok (.aload_n 0, 1) := by decide +kernel
theorem dX7_digest_72 : decode cX7_digest 72 = .ok (.getfield 9, 3) := by decide +kernel
theorem dX7_digest_75 : decode cX7_digest 75 = .ok (.iload_n 3, 1) := by decide +kernel
theorem dX7_digest_76 : decode cX7_digest 76 = .ok (.iaload, 1) := by decide +kernel
theorem dX7_digest_77 : decode cX7_digest 77 = .ok (.i2l, 1) := by decide +kernel
theorem dX7_digest_78 : decode cX7_digest 78 = .ok (.ladd, 1) := by decide +kernel
theorem dX7_digest_79 : decode cX7_digest 79 = .ok (.lstore_n 1, 1) := by decide +kernel
theorem dX7_digest_80 : decode cX7_digest 80 = .ok (.iinc 3 1, 3) := by decide +kernel
theorem dX7_digest_83 : decode cX7_digest 83 = .ok (.goto (-23), 3) := by decide +kernel
theorem dX7_digest_86 : decode cX7_digest 86 = .ok (.aload_n 0, 1) := by decide +kernel
theorem dX7_digest_87 : decode cX7_digest 87 = .ok (.getfield 19, 3) := by decide +kernel
theorem dX7_digest_90 : decode cX7_digest 90 = .ok (.getfield 98, 3) := by decide +kernel
theorem dX7_digest_93 : decode cX7_digest 93 = .ok (.lload_n 1, 1) := by decide +kernel
theorem dX7_digest_94 : decode cX7_digest 94 = .ok (.invokevirtual 229, 3) := by decide +kernel
theorem dX7_digest_97 : decode cX7_digest 97 = .ok (.lstore_n 1, 1) := by decide +kernel
theorem dX7_digest_98 : decode cX7_digest 98 = .ok (.aload_n 0, 1) := by decide +kernel
theorem dX7_digest_99 : decode cX7_digest 99 = .ok (.getfield 42, 3) := by decide +kernel
theorem dX7_digest_102 : decode cX7_digest 102 = .ok (.lload_n 1, 1) := by decide +kernel
theorem dX7_digest_103 : decode cX7_digest 103 = .ok (.invokevirtual 229, 3) := by decide +kernel
theorem dX7_digest_106 : decode cX7_digest 106 = .ok (.lstore_n 1, 1) := by decide +kernel
theorem dX7_digest_107 : decode cX7_digest 107 = .ok (.iconst 0, 1) := by decide +kernel
theorem dX7_digest_108 : decode cX7_digest 108 = .ok (.istore_n 3, 1) := by decide +kernel
theorem dX7_digest_109 : decode cX7_digest 109 = .ok (.iload_n 3, 1) := by decide +kernel
theorem dX7_digest_110 : decode cX7_digest 110 = .ok (.iconst 3, 1) := by decide +kernel
theorem dX7_digest_111 : decode cX7_digest 111 = .ok (.if_icmp .ge 26, 3) := by decide +kernel
theorem dX7_digest_114 : decode cX7_digest 114 = .ok (.ldc2_w 221, 3) := by decide +kernel
theorem dX7_digest_117 : decode cX7_digest 117 = .ok (.lload_n 1, 1) := by decide +kernel
theorem dX7_digest_118 : decode cX7_digest 118 = .ok (.lmul, 1) := by decide +kernel
theorem dX7_digest_119 : decode cX7_digest 119 = .ok (.aload_n 0, 1) := by decide +kernel
theorem dX7_digest_120 : decode cX7_digest 120 = .ok (.getfield 49, 3) := by decide +kernel
theorem dX7_digest_123 : decode cX7_digest 123 = .ok (.getfield 180, 3) := by decide +kernel
theorem dX7_digest_126 : decode cX7_digest 126 = .ok (.iload_n 3, 1) := by decide +kernel
theorem dX7_digest_127 : decode cX7_digest 127 = .ok (.iaload, 1) := by decide +kernel
theorem dX7_digest_128 : decode cX7_digest 128 = .ok (.i2l, 1) := by decide +kernel
theorem dX7_digest_129 : decode cX7_digest 129 = .ok (.ladd, 1) := by decide +kernel
theorem dX7_digest_130 : decode cX7_digest 130 = .ok (.lstore_n 1, 1) := by decide +kernel
theorem dX7_digest_131 : decode cX7_digest 131 = .ok (.iinc 3 1, 3) := by decide +kernel
theorem dX7_digest_134 : decode cX7_digest 134 = .ok (.goto (-25), 3) := by decide +kernel
theorem dX7_digest_137 : decode cX7_digest 137 = .ok (.lload_n 1, 1) := by decide +kernel
theorem dX7_digest_138 : decode cX7_digest 138 = .ok (.lreturn, 1) := by decide +kernel
theorem dX7_within_0 : decode cX7_within 0 = .ok (.iload_n 0, 1) := by decide +kernel
theorem dX7_within_1 : decode cX7_within 1 = .ok (.iload_n 1, 1) := by decide +kernel
theorem dX7_within_2 : decode cX7_within 2 = .ok (.if_icmp .lt 12, 3) := by decide +kernel
theorem dX7_within_5 : decode cX7_within 5 = .ok (.iload_n 0, 1) := by decide +kernel
theorem dX7_within_6 : decode cX7_within 6 = .ok (.iload_n 2, 1) := by decide +kernel
theorem dX7_within_7 : decode cX7_within 7 = .ok (.if_icmp .gt 7, 3) := by decide +kernel
theorem dX7_within_10 : decode cX7_within 10 = .ok (.iconst 1, 1) := by decide +kernel
theorem dX7_within_11 : decode cX7_within 11 = .ok (.goto 4, 3) := by decide +kernel
theorem dX7_within_14 : decode cX7_within 14 = .ok (.iconst 0, 1) := by decide +kernel
theorem dX7_within_15 : decode cX7_within 15 = .ok (.ireturn, 1) := by decide +kernel
theorem dX7_castPig_0 : decode cX7_castPig 0 = .ok (.aload_n 0, 1) := by decide +kernel
theorem dX7_castPig_1 : decode cX7_castPig 1 = .ok (.getfield 26, 3) := by decide +kernel
theorem dX7_castPig_4 : decode cX7_castPig 4 = .ok (.getfield 153, 3) := by decide +kernel
theorem dX7_castPig_7 : decode cX7_castPig 7 = .ok (.ifCond .gt 5, 3) := by decide +kernel
theorem dX7_castPig_10 : decode cX7_castPig 10 = .ok (.iconst (-1), 1) := by decide +kernel
theorem dX7_castPig_11 : decode cX7_castPig 11 = .ok (.ireturn, 1) := by decide +kernel
theorem dX7_castPig_12 : decode cX7_castPig 12 = .ok (.aload_n 0, 1) := by decide +kernel
theorem dX7_castPig_13 : decode cX7_castPig 13 = .ok (.getfield 42, 3) := by decide +kernel
theorem dX7_castPig_16 : decode cX7_castPig 16 = .ok (.invokevirtual 101, 3) := by decide +kernel
theorem dX7_castPig_19 : decode cX7_castPig 19 = .ok (.ifCond .eq 6, 3) := by decide +kernel
theorem dX7_castPig_22 : decode cX7_castPig 22 = .ok (.bipush (-4), 2) := by decide +kernel
theorem dX7_castPig_24 : decode cX7_castPig 24 = .ok (.ireturn, 1) := by decide +kernel
theorem dX7_castPig_25 : decode cX7_castPig 25 = .ok (.aload_n 0, 1) := by decide +kernel
theorem dX7_castPig_26 : decode cX7_castPig 26 = .ok (.getfield 42, 3) := by decide +kernel
theorem dX7_castPig_29 : decode cX7_castPig 29 = .ok (.invokevirtual 186, 3) := by decide +kernel
theorem dX7_castPig_32 : decode cX7_castPig 32 = .ok (.istore_n 1, 1) := by decide +kernel
theorem dX7_castPig_33 : decode cX7_castPig 33 = .ok (.aload_n 0, 1) := by decide +kernel
theorem dX7_castPig_34 : decode cX7_castPig 34 = .ok (.getfield 42, 3) := by decide +kernel
theorem dX7_castPig_37 : decode cX7_castPig 37 = .ok (.iload_n 1, 1) := by decide +kernel
theorem dX7_castPig_38 : decode cX7_castPig 38 = .ok (.iconst 0, 1) := by decide +kernel
theorem dX7_castPig_39 : decode cX7_castPig 39 = .ok (.aload_n 0, 1) := by decide +kernel
theorem dX7_castPig_40 : decode cX7_castPig 40 = .ok (.getfield 26, 3) := by decide +kernel
theorem dX7_castPig_43 : decode cX7_castPig 43 = .ok (.getfield 153, 3) := by decide +kernel
theorem dX7_castPig_46 : decode cX7_castPig 46 = .ok (.invokevirtual 86, 3) := by decide +kernel
theorem dX7_castPig_49 : decode cX7_castPig 49 = .ok (.aload_n 0, 1) := by decide +kernel
theorem dX7_castPig_50 : decode cX7_castPig 50 = .ok (.getfield 42, 3) := by decide +kernel
theorem dX7_castPig_53 : decode cX7_castPig 53 = .ok (.iload_n 1, 1) := by decide +kernel
theorem dX7_castPig_54 : decode cX7_castPig 54 = .ok (.iconst 1, 1) := by decide +kernel
theorem dX7_castPig_55 : decode cX7_castPig 55 = .ok (.aload_n 0, 1) := by decide +kernel
theorem dX7_castPig_56 : decode cX7_castPig 56 = .ok (.getfield 26, 3) := by decide +kernel
theorem dX7_castPig_59 : decode cX7_castPig 59 = .ok (.getfield 233, 3) := by decide +kernel
theorem dX7_castPig_62 : decode cX7_castPig 62 = .ok (.invokevirtual 86, 3) := by decide +kernel
theorem dX7_castPig_65 : decode cX7_castPig 65 = .ok (.aload_n 0, 1) := by decide +kernel
theorem dX7_castPig_66 : decode cX7_castPig 66 = .ok (.getfield 42, 3) := by decide +kernel
theorem dX7_castPig_69 : decode cX7_castPig 69 = .ok (.iload_n 1, 1) := by decide +kernel
theorem dX7_castPig_70 : decode cX7_castPig 70 = .ok (.iconst 2, 1) := by decide +kernel
theorem dX7_castPig_71 : decode cX7_castPig 71 = .ok (.aload_n 0, 1) := by decide +kernel
theorem dX7_castPig_72 : decode cX7_castPig 72 = .ok (.getfield 26, 3) := by decide +kernel
theorem dX7_castPig_75 : decode cX7_castPig 75 = .ok (.getfield 236, 3) := by decide +kernel
theorem dX7_castPig_78 : decode cX7_castPig 78 = .ok (.invokevirtual 86, 3) := by decide +kernel
theorem dX7_castPig_81 : decode cX7_castPig 81 = .ok (.aload_n 0, 1) := by decide +kernel
theorem dX7_castPig_82 : decode cX7_castPig 82 = .ok (.getfield 42, 3) := by decide +kernel
theorem dX7_castPig_85 : decode cX7_castPig 85 = .ok (.iload_n 1, 1) := by decide +kernel
theorem dX7_castPig_86 : decode cX7_castPig 86 = .ok (.iconst 3, 1) := by decide +kernel
theorem dX7_castPig_87 : decode cX7_castPig 87 = .ok (.aload_n 0, 1) := by decide +kernel
theorem dX7_castPig_88 : decode cX7_castPig 88 = .ok (.getfield 26, 3) := by decide +kernel
theorem dX7_castPig_91 : decode cX7_castPig 91 = .ok (.getfield 239, 3) := by decide +kernel
theorem dX7_castPig_94 : decode cX7_castPig 94 = .ok (.invokevirtual 86, 3) := by decide +kernel
theorem dX7_castPig_97 : decode cX7_castPig 97 = .ok (.aload_n 0, 1) := by decide +kernel
theorem dX7_castPig_98 : decode cX7_castPig 98 = .ok (.getfield 42, 3) := by decide +kernel
theorem dX7_castPig_101 : decode cX7_castPig 101 = .ok (.iload_n 1, 1) := by decide +kernel
theorem dX7_castPig_102 : decode cX7_castPig 102 = .ok (.iconst 4, 1) := by decide +kernel
theorem dX7_castPig_103 : decode cX7_castPig 103 = .ok (.aload_n 0, 1) := by decide +kernel
theorem dX7_castPig_104 : decode cX7_castPig 104 = .ok (.getfield 33, 3) := by decide +kernel
theorem dX7_castPig_107 : decode cX7_castPig 107 = .ok (.getfield 137, 3) := by decide +kernel
theorem dX7_castPig_110 : decode cX7_castPig 110 = .ok (.invokevirtual 86, 3) := by decide +kernel
theorem dX7_castPig_113 : decode cX7_castPig 113 = .ok (.aload_n 0, 1) := by decide +kernel
theorem dX7_castPig_114 : decode cX7_castPig 114 = .ok (.getfield 42, 3) := by decide +kernel
theorem dX7_castPig_117 : decode cX7_castPig 117 = .ok (.iload_n 1, 1) := by decide +kernel
theorem dX7_castPig_118 : decode cX7_castPig 118 = .ok (.iconst 5, 1) := by decide +kernel
theorem dX7_castPig_119 : decode cX7_castPig 119 = .ok (.iconst (-1), 1) := by decide +kernel
theorem dX7_castPig_120 : decode cX7_castPig 120 = .ok (.invokevirtual 86, 3) := by decide +kernel
theorem dX7_castPig_123 : decode cX7_castPig 123 = .ok (.aload_n 0, 1) := by decide +kernel
theorem dX7_castPig_124 : decode cX7_castPig 124 = .ok (.getfield 26, 3) := by decide +kernel
theorem dX7_castPig_127 : decode cX7_castPig 127 = .ok (.invokevirtual 242, 3) := by decide +kernel
theorem dX7_castPig_130 : decode cX7_castPig 130 = .ok (.iload_n 1, 1) := by decide +kernel
theorem dX7_castPig_131 : decode cX7_castPig 131 = .ok (.ireturn, 1) := by decide +kernel
theorem dX7_followRules_0 : decode cX7_followRules 0 = .ok (.iconst 0, 1) := by decide +kernel
theorem dX7_followRules_1 : decode cX7_followRules 1 = .ok (.istore_n 1, 1) := by decide +kernel
theorem dX7_followRules_2 : decode cX7_followRules 2 = .ok (.iload_n 1, 1) := by decide +kernel
theorem dX7_followRules_3 : decode cX7_followRules 3 = .ok (.aload_n 0, 1) := by decide +kernel
theorem dX7_followRules_4 : decode cX7_followRules 4 = .ok (.getfield 53, 3) := by decide +kernel
theorem dX7_followRules_7 : decode cX7_followRules 7 = .ok (.getfield 109, 3) := by decide +kernel
theorem dX7_followRules_10 : decode cX7_followRules 10 = .ok (.if_icmp .ge 91, 3) := by decide +kernel
theorem dX7_followRules_13 : decode cX7_followRules 13 = .ok (.aload_n 0, 1) := by decide +kernel
theorem dX7_followRules_14 : decode cX7_followRules 14 = .ok (.iload_n 1, 1) := by decide +kernel
theorem dX7_followRules_15 : decode cX7_followRules 15 = .ok (.invokevirtual 245, 3) := by decide +kernel
theorem dX7_followRules_18 : decode cX7_followRules 18 = .ok (.ifCond .ne 6, 3) := by decide +kernel
theorem dX7_followRules_21 : decode cX7_followRules 21 = .ok (.goto 74, 3) := by decide +kernel
theorem dX7_followRules_24 : decode cX7_followRules 24 = .ok (.aload_n 0, 1) := by decide +kernel
theorem dX7_followRules_25 : decode cX7_followRules 25 = .ok (.getfield 53, 3) := by decide +kernel
theorem dX7_followRules_28 : decode cX7_followRules 28 = .ok (.iload_n 1, 1) := by decide +kernel
theorem dX7_followRules_29 : decode cX7_followRules 29 = .ok (.iconst 3, 1) := by decide +kernel
theorem dX7_followRules_30 : decode cX7_followRules 30 = .ok (.invokevirtual 112, 3) := by decide +kernel
theorem dX7_followRules_33 : decode cX7_followRules 33 = .ok (.istore_n 2, 1) := by decide +kernel
theorem dX7_followRules_34 : decode cX7_followRules 34 = .ok (.iload_n 2, 1) := by decide +kernel
theorem dX7_followRules_35 : decode cX7_followRules 35 = .ok (.ifCond .ne 27, 3) := by decide +kernel
theorem dX7_followRules_38 : decode cX7_followRules 38 = .ok (.aload_n 0, 1) := by decide +kernel
theorem dX7_followRules_39 : decode cX7_followRules 39 = .ok (.getfield 33, 3) := by decide +kernel
theorem dX7_followRules_42 : decode cX7_followRules 42 = .ok (.bipush 20, 2) := by decide +kernel
theorem dX7_followRules_44 : decode cX7_followRules 44 = .ok (.aload_n 0, 1) := by decide +kernel
theorem dX7_followRules_45 : decode cX7_followRules 45 = .ok (.getfield 33, 3) := by decide +kernel
theorem dX7_followRules_48 : decode cX7_followRules 48 = .ok (.getfield 116, 3) := by decide +kernel
theorem dX7_followRules_51 : decode cX7_followRules 51 = .ok (.iconst 1, 1) := by decide +kernel
theorem dX7_followRules_52 : decode cX7_followRules 52 = .ok (.iadd, 1) := by decide +kernel
theorem dX7_followRules_53 : decode cX7_followRules 53 = .ok (.invokestatic 249, 3) := by decide +kernel
theorem dX7_followRules_56 : decode cX7_followRules 56 = .ok (.putfield 116, 3) := by decide +kernel
theorem dX7_followRules_59 : decode cX7_followRules 59 = .ok (.goto 36, 3) := by decide +kernel
theorem dX7_followRules_62 : decode cX7_followRules 62 = .ok (.iload_n 2, 1) := by decide +kernel
theorem dX7_followRules_63 : decode cX7_followRules 63 = .ok (.iconst 1, 1) := by decide +kernel
theorem dX7_followRules_64 : decode cX7_followRules 64 = .ok (.if_icmp .ne 26, 3) := by decide +kernel
theorem dX7_followRules_67 : decode cX7_followRules 67 = .ok (.aload_n 0, 1) := by decide +kernel
theorem dX7_followRules_68 : decode cX7_followRules 68 = .ok (.getfield 33, 3) := by decide +kernel
theorem dX7_followRules_71 : decode cX7_followRules 71 = .ok (.iconst 0, 1) := by decide +kernel
theorem dX7_followRules_72 : decode cX7_followRules 72 = .ok (.aload_n 0, 1) := by decide +kernel
theorem dX7_followRules_73 : decode cX7_followRules 73 = .ok (.getfield 33, 3) := by decide +kernel
theorem dX7_followRules_76 : decode cX7_followRules 76 = .ok (.getfield 116, 3) := by decide +kernel
theorem dX7_followRules_79 : decode cX7_followRules 79 = .ok (.iconst 1, 1) := by decide +kernel
theorem dX7_followRules_80 : decode cX7_followRules 80 = .ok (.isub, 1) := by decide +kernel
theorem dX7_followRules_81 : decode cX7_followRules 81 = .ok (.invokestatic 254, 3) := by decide +kernel
theorem dX7_followRules_84 : decode cX7_followRules 84 = .ok (.putfield 116, 3) := by decide +kernel
theorem dX7_followRules_87 : decode cX7_followRules 87 = .ok (.goto 8, 3) := by decide +kernel
theorem dX7_followRules_90 : decode cX7_followRules 90 = .ok (.aload_n 0, 1) := by decide +kernel
theorem dX7_followRules_91 : decode cX7_followRules 91 = .ok (.invokevirtual 159, 3) := by decide +kernel
theorem dX7_followRules_94 : decode cX7_followRules 94 = .ok (.pop, 1) := by decide +kernel
theorem dX7_followRules_95 : decode cX7_followRules 95 = .ok (.iinc 1 1, 3) := by decide +kernel
theorem dX7_followRules_98 : decode cX7_followRules 98 = .ok (.goto (-96), 3) := by decide +kernel
theorem dX7_followRules_101 : decode cX7_followRules 101 = .ok (.return_, 1) := by decide +kernel
theorem dX7_isCalledFor_0 : decode cX7_isCalledFor 0 = .ok (.aload_n 0, 1) := by decide +kernel
theorem dX7_isCalledFor_1 : decode cX7_isCalledFor 1 = .ok (.getfield 53, 3) := by decide +kernel
theorem dX7_isCalledFor_4 : decode cX7_isCalledFor 4 = .ok (.iload_n 1, 1) := by decide +kernel
theorem dX7_isCalledFor_5 : decode cX7_isCalledFor 5 = .ok (.iconst 0, 1) := by decide +kernel
theorem dX7_isCalledFor_6 : decode cX7_isCalledFor 6 = .ok (.invokevirtual 112, 3) := by decide +kernel
theorem dX7_isCalledFor_9 : decode cX7_isCalledFor 9 = .ok (.istore_n 2, 1) := by decide +kernel
theorem dX7_isCalledFor_10 : decode cX7_isCalledFor 10 = .ok (.iload_n 2, 1) := by decide +kernel
theorem dX7_isCalledFor_11 : decode cX7_isCalledFor 11 = .ok (.iconst 0, 1) := by decide +kernel
theorem dX7_isCalledFor_12 : decode cX7_isCalledFor 12 = .ok (.iconst 2, 1) := by decide +kernel
theorem dX7_isCalledFor_13 : decode cX7_isCalledFor 13 = .ok (.invokestatic 90, 3) := by decide +kernel
theorem dX7_isCalledFor_16 : decode cX7_isCalledFor 16 = .ok (.ifCond .ne 5, 3) := by decide +kernel
theorem dX7_isCalledFor_19 : decode cX7_isCalledFor 19 = .ok (.iconst 0, 1) := by decide +kernel
theorem dX7_isCalledFor_20 : decode cX7_isCalledFor 20 = .ok (.ireturn, 1) := by decide +kernel
theorem dX7_isCalledFor_21 : decode cX7_isCalledFor 21 = .ok (.aload_n 0, 1) := by decide +kernel
theorem dX7_isCalledFor_22 : decode cX7_isCalledFor 22 = .ok (.getfield 49, 3) := by decide +kernel
theorem dX7_isCalledFor_25 : decode cX7_isCalledFor 25 = .ok (.getfield 180, 3) := by decide +kernel
theorem dX7_isCalledFor_28 : decode cX7_isCalledFor 28 = .ok (.iload_n 2, 1) := by decide +kernel
theorem dX7_isCalledFor_29 : decode cX7_isCalledFor 29 = .ok (.iaload, 1) := by decide +kernel
theorem dX7_isCalledFor_30 : decode cX7_isCalledFor 30 = .ok (.istore_n 3, 1) := by decide +kernel
theorem dX7_isCalledFor_31 : decode cX7_isCalledFor 31 = .ok (.iload_n 3, 1) := by decide +kernel
theorem dX7_isCalledFor_32 : decode cX7_isCalledFor 32 = .ok (.iconst (-1), 1) := by decide +kernel
theorem dX7_isCalledFor_33 : decode cX7_isCalledFor 33 = .ok (.if_icmp .ne 5, 3) := by decide +kernel
theorem dX7_isCalledFor_36 : decode cX7_isCalledFor 36 = .ok (.iconst 0, 1) := by decide +kernel
theorem dX7_isCalledFor_37 : decode cX7_isCalledFor 37 = .ok (.ireturn, 1) := by decide +kernel
theorem dX7_isCalledFor_38 : decode cX7_isCalledFor 38 = .ok (.aload_n 0, 1) := by decide +kernel
theorem dX7_isCalledFor_39 : decode cX7_isCalledFor 39 = .ok (.getfield 53, 3) := by decide +kernel
theorem dX7_isCalledFor_42 : decode cX7_isCalledFor 42 = .ok (.iload_n 1, 1) := by decide +kernel
theorem dX7_isCalledFor_43 : decode cX7_isCalledFor 43 = .ok (.iconst 2, 1) := by decide +kernel
theorem dX7_isCalledFor_44 : decode cX7_isCalledFor 44 = .ok (.invokevirtual 112, 3) := by decide +kernel
theorem dX7_isCalledFor_47 : decode cX7_isCalledFor 47 = .ok (.istore 4, 2) := by decide +kernel
theorem dX7_isCalledFor_49 : decode cX7_isCalledFor 49 = .ok (.aload_n 0, 1) := by decide +kernel
theorem dX7_isCalledFor_50 : decode cX7_isCalledFor 50 = .ok (.getfield 53, 3) := by decide +kernel
theorem dX7_isCalledFor_53 : decode cX7_isCalledFor 53 = .ok (.iload_n 1, 1) := by decide +kernel
theorem dX7_isCalledFor_54 : decode cX7_isCalledFor 54 = .ok (.iconst 1, 1) := by decide +kernel
theorem dX7_isCalledFor_55 : decode cX7_isCalledFor 55 = .ok (.invokevirtual 112, 3) := by decide +kernel
theorem dX7_isCalledFor_58 : decode cX7_isCalledFor 58 = .ok (.iconst 1, 1) := by decide +kernel
theorem dX7_isCalledFor_59 : decode cX7_isCalledFor 59 = .ok (.if_icmp .ne 17, 3) := by decide +kernel
theorem dX7_isCalledFor_62 : decode cX7_isCalledFor 62 = .ok (.iload_n 3, 1) := by decide +kernel
theorem dX7_isCalledFor_63 : decode cX7_isCalledFor 63 = .ok (.iload 4, 2) := by decide +kernel
theorem dX7_isCalledFor_65 : decode cX7_isCalledFor 65 = .ok (.if_icmp .le 7, 3) := by decide +kernel
theorem dX7_isCalledFor_68 : decode cX7_isCalledFor 68 = .ok (.iconst 1, 1) := by decide +kernel
theorem dX7_isCalledFor_69 : decode cX7_isCalledFor 69 = .ok (.goto 18, 3) := by decide +kernel
theorem dX7_isCalledFor_72 : decode cX7_isCalledFor 72 = .ok (.iconst 0, 1) := by decide +kernel
theorem dX7_isCalledFor_73 : decode cX7_isCalledFor 73 = .ok (.goto 14, 3) := by decide +kernel
theorem dX7_isCalledFor_76 : decode cX7_isCalledFor 76 = .ok (.iload_n 3, 1) := by decide +kernel
theorem dX7_isCalledFor_77 : decode cX7_isCalledFor 77 = .ok (.iload 4, 2) := by decide +kernel
theorem dX7_isCalledFor_79 : decode cX7_isCalledFor 79 = .ok (.if_icmp .ge 7, 3) := by decide +kernel
theorem dX7_isCalledFor_82 : decode cX7_isCalledFor 82 = .ok (.iconst 1, 1) := by decide +kernel
theorem dX7_isCalledFor_83 : decode cX7_isCalledFor 83 = .ok (.goto 4, 3) := by decide +kernel
theorem dX7_isCalledFor_86 : decode cX7_isCalledFor 86 = .ok (.iconst 0, 1) := by decide +kernel
theorem dX7_isCalledFor_87 : decode cX7_isCalledFor 87 = .ok (.ireturn, 1) := by decide +kernel
theorem dX8_init_0 : decode cX8_init 0 = .ok (.aload_n 0, 1) := by decide +kernel
theorem dX8_init_1 : decode cX8_init 1 = .ok (.invokespecial 1, 3) := by decide +kernel
theorem dX8_init_4 : decode cX8_init 4 = .ok (.aload_n 0, 1) := by decide +kernel
theorem dX8_init_5 : decode cX8_init 5 = .ok (.bipush 6, 2) := by decide +kernel
theorem dX8_init_7 : decode cX8_init 7 = .ok (.newarray .int, 2) := by decide +kernel
theorem dX8_init_9 : decode cX8_init 9 = .ok (.putfield 7, 3) := by decide +kernel
theorem dX8_init_12 : decode cX8_init 12 = .ok (.aload_n 0, 1) := by decide +kernel
theorem dX8_init_13 : decode cX8_init 13 = .ok (.iconst 4, 1) := by decide +kernel
theorem dX8_init_14 : decode cX8_init 14 = .ok (.newarray .int, 2) := by decide +kernel
theorem dX8_init_16 : decode cX8_init 16 = .ok (.dup, 1) := by decide +kernel
theorem dX8_init_17 : decode cX8_init 17 = .ok (.iconst 0, 1) := by decide +kernel
theorem dX8_init_18 : decode cX8_init 18 = .ok (.bipush 30, 2) := by decide +kernel
theorem dX8_init_20 : decode cX8_init 20 = .ok (.iastore, 1) := by decide +kernel
theorem dX8_init_21 : decode cX8_init 21 = .ok (.dup, 1) := by decide +kernel
theorem dX8_init_22 : decode cX8_init 22 = .ok (.iconst 1, 1) := by decide +kernel
theorem dX8_init_23 : decode cX8_init 23 = .ok (.bipush 30, 2) := by decide +kernel
theorem dX8_init_25 : decode cX8_init 25 = .ok (.iastore, 1) := by decide +kernel
theorem dX8_init_26 : decode cX8_init 26 = .ok (.dup, 1) := by decide +kernel
theorem dX8_init_27 : decode cX8_init 27 = .ok (.iconst 2, 1) := by decide +kernel
theorem dX8_init_28 : decode cX8_init 28 = .ok (.bipush 30, 2) := by decide +kernel
theorem dX8_init_30 : decode cX8_init 30 = .ok (.iastore, 1) := by decide +kernel
theorem dX8_init_31 : decode cX8_init 31 = .ok (.dup, 1) := by decide +kernel
theorem dX8_init_32 : decode cX8_init 32 = .ok (.iconst 3, 1) := by decide +kernel
theorem dX8_init_33 : decode cX8_init 33 = .ok (.bipush 30, 2) := by decide +kernel
theorem dX8_init_35 : decode cX8_init 35 = .ok (.iastore, 1) := by decide +kernel
theorem dX8_init_36 : decode cX8_init 36 = .ok (.putfield 13, 3) := by decide +kernel
theorem dX8_init_39 : decode cX8_init 39 = .ok (.aload_n 0, 1) := by decide +kernel
theorem dX8_init_40 : decode cX8_init 40 = .ok (.sipush 400, 3) := by decide +kernel
theorem dX8_init_43 : decode cX8_init 43 = .ok (.newarray .int, 2) := by decide +kernel
theorem dX8_init_45 : decode cX8_init 45 = .ok (.putfield 16, 3) := by decide +kernel
theorem dX8_init_48 : decode cX8_init 48 = .ok (.aload_n 0, 1) := by decide +kernel
theorem dX8_init_49 : decode cX8_init 49 = .ok (.sipush 400, 3) := by decide +kernel
theorem dX8_init_52 : decode cX8_init 52 = .ok (.newarray .int, 2) := by decide +kernel
theorem dX8_init_54 : decode cX8_init 54 = .ok (.putfield 19, 3) := by decide +kernel
theorem dX8_init_57 : decode cX8_init 57 = .ok (.aload_n 0, 1) := by decide +kernel
theorem dX8_init_58 : decode cX8_init 58 = .ok (.sipush 400, 3) := by decide +kernel
theorem dX8_init_61 : decode cX8_init 61 = .ok (.newarray .int, 2) := by decide +kernel
theorem dX8_init_63 : decode cX8_init 63 = .ok (.putfield 22, 3) := by decide +kernel
theorem dX8_init_66 : decode cX8_init 66 = .ok (.aload_n 0, 1) := by decide +kernel
theorem dX8_init_67 : decode cX8_init 67 = .ok (.sipush 400, 3) := by decide +kernel
theorem dX8_init_70 : decode cX8_init 70 = .ok (.newarray .int, 2) := by decide +kernel
theorem dX8_init_72 : decode cX8_init 72 = .ok (.putfield 25, 3) := by decide +kernel
theorem dX8_init_75 : decode cX8_init 75 = .ok (.aload_n 0, 1) := by decide +kernel
theorem dX8_init_76 : decode cX8_init 76 = .ok (.sipush 400, 3) := by decide +kernel
theorem dX8_init_79 : decode cX8_init 79 = .ok (.newarray .int, 2) := by decide +kernel
theorem dX8_init_81 : decode cX8_init 81 = .ok (.putfield 28, 3) := by decide +kernel
theorem dX8_init_84 : decode cX8_init 84 = .ok (.aload_n 0, 1) := by decide +kernel
theorem dX8_init_85 : decode cX8_init 85 = .ok (.sipush 400, 3) := by decide +kernel
theorem dX8_init_88 : decode cX8_init 88 = .ok (.newarray .int, 2) := by decide +kernel
theorem dX8_init_90 : decode cX8_init 90 = .ok (.putfield 31, 3) := by decide +kernel
theorem dX8_init_93 : decode cX8_init 93 = .ok (.aload_n 0, 1) := by decide +kernel
theorem dX8_init_94 : decode cX8_init 94 = .ok (.sipush 400, 3) := by decide +kernel
theorem dX8_init_97 : decode cX8_init 97 = .ok (.newarray .int, 2) := by decide +kernel
theorem dX8_init_99 : decode cX8_init 99 = .ok (.putfield 34, 3) := by decide +kernel
theorem dX8_init_102 : decode cX8_init 102 = .ok (.aload_n 0, 1) := by decide +kernel
theorem dX8_init_103 : decode cX8_init 103 = .ok (.bipush 100, 2) := by decide +kernel
theorem dX8_init_105 : decode cX8_init 105 = .ok (.putfield 37, 3) := by decide +kernel
theorem dX8_init_108 : decode cX8_init 108 = .ok (.aload_n 0, 1) := by decide +kernel
theorem dX8_init_109 : decode cX8_init 109 = .ok (.sipush 1000, 3) := by decide +kernel
theorem dX8_init_112 : decode cX8_init 112 = .ok (.putfield 41, 3) := by decide +kernel
theorem dX8_init_115 : decode cX8_init 115 = .ok (.aload_n 0, 1) := by decide +kernel
theorem dX8_init_116 : decode cX8_init 116 = .ok (.iconst (-1), 1) := by decide +kernel
theorem dX8_init_117 : decode cX8_init 117 = .ok (.putfield 44, 3) := by decide +kernel
theorem dX8_init_120 : decode cX8_init 120 = .ok (.aload_n 0, 1) := by decide +kernel
theorem dX8_init_121 : decode cX8_init 121 = .ok (.iconst (-1), 1) := by decide +kernel
theorem dX8_init_122 : decode cX8_init 122 = .ok (.putfield 47, 3) := by decide +kernel
theorem dX8_init_125 : decode cX8_init 125 = .ok (.aload_n 0, 1) := by decide +kernel
theorem dX8_init_126 : decode cX8_init 126 = .ok (.iconst (-1), 1) := by decide +kernel
theorem dX8_init_127 : decode cX8_init 127 = .ok (.putfield 50, 3) := by decide +kernel
theorem dX8_init_130 : decode cX8_init 130 = .ok (.aload_n 0, 1) := by decide +kernel
theorem dX8_init_131 : decode cX8_init 131 = .ok (.bipush 60, 2) := by decide +kernel
theorem dX8_init_133 : decode cX8_init 133 = .ok (.newarray .int, 2) := by decide +kernel
theorem dX8_init_135 : decode cX8_init 135 = .ok (.putfield 53, 3) := by decide +kernel
theorem dX8_init_138 : decode cX8_init 138 = .ok (.aload_n 0, 1) := by decide +kernel
theorem dX8_init_139 : decode cX8_init 139 = .ok (.bipush 60, 2) := by decide +kernel
theorem dX8_init_141 : decode cX8_init 141 = .ok (.newarray .int, 2) := by decide +kernel
theorem dX8_init_143 : decode cX8_init 143 = .ok (.putfield 56, 3) := by decide +kernel
theorem dX8_init_146 : decode cX8_init 146 = .ok (.aload_n 0, 1) := by decide +kernel
theorem dX8_init_147 : decode cX8_init 147 = .ok (.bipush 60, 2) := by decide +kernel
theorem dX8_init_149 : decode cX8_init 149 = .ok (.newarray .int, 2) := by decide +kernel
theorem dX8_init_151 : decode cX8_init 151 = .ok (.putfield 59, 3) := by decide +kernel
theorem dX8_init_154 : decode cX8_init 154 = .ok (.aload_n 0, 1) := by decide +kernel
theorem dX8_init_155 : decode cX8_init 155 = .ok (.bipush 60, 2) := by decide +kernel
theorem dX8_init_157 : decode cX8_init 157 = .ok (.newarray .int, 2) := by decide +kernel
theorem dX8_init_159 : decode cX8_init 159 = .ok (.putfield 62, 3) := by decide +kernel
theorem dX8_init_162 : decode cX8_init 162 = .ok (.aload_n 0, 1) := by decide +kernel
theorem dX8_init_163 : decode cX8_init 163 = .ok (.bipush 60, 2) := by decide +kernel
theorem dX8_init_165 : decode cX8_init 165 = .ok (.newarray .int, 2) := by decide +kernel
theorem dX8_init_167 : decode cX8_init 167 = .ok (.putfield 65, 3) := by decide +kernel
theorem dX8_init_170 : decode cX8_init 170 = .ok (.aload_n 0, 1) := by decide +kernel
theorem dX8_init_171 : decode cX8_init 171 = .ok (.bipush 60, 2) := by decide +kernel
theorem dX8_init_173 : decode cX8_init 173 = .ok (.newarray .int, 2) := by decide +kernel
theorem dX8_init_175 : decode cX8_init 175 = .ok (.putfield 68, 3) := by decide +kernel
theorem dX8_init_178 : decode cX8_init 178 = .ok (.aload_n 0, 1) := by decide +kernel
theorem dX8_init_179 : decode cX8_init 179 = .ok (.iconst 3, 1) := by decide +kernel
theorem dX8_init_180 : decode cX8_init 180 = .ok (.newarray .int, 2) := by decide +kernel
theorem dX8_init_182 : decode cX8_init 182 = .ok (.dup, 1) := by decide +kernel
theorem dX8_init_183 : decode cX8_init 183 = .ok (.iconst 0, 1) := by decide +kernel
theorem dX8_init_184 : decode cX8_init 184 = .ok (.iconst (-1), 1) := by decide +kernel
theorem dX8_init_185 : decode cX8_init 185 = .ok (.iastore, 1) := by decide +kernel
theorem dX8_init_186 : decode cX8_init 186 = .ok (.dup, 1) := by decide +kernel
theorem dX8_init_187 : decode cX8_init 187 = .ok (.iconst 1, 1) := by decide +kernel
theorem dX8_init_188 : decode cX8_init 188 = .ok (.iconst (-1), 1) := by decide +kernel
theorem dX8_init_189 : decode cX8_init 189 = .ok (.iastore, 1) := by decide +kernel
theorem dX8_init_190 : decode cX8_init 190 = .ok (.dup, 1) := by decide +kernel
theorem dX8_init_191 : decode cX8_init 191 = .ok (.iconst 2, 1) := by decide +kernel
theorem dX8_init_192 : decode cX8_init 192 = .ok (.iconst (-1), 1) := by decide +kernel
theorem dX8_init_193 : decode cX8_init 193 = .ok (.iastore, 1) := by decide +kernel
theorem dX8_init_194 : decode cX8_init 194 = .ok (.putfield 71, 3) := by decide +kernel
theorem dX8_init_197 : decode cX8_init 197 = .ok (.aload_n 0, 1) := by decide +kernel
theorem dX8_init_198 : decode cX8_init 198 = .ok (.iconst 3, 1) := by decide +kernel
theorem dX8_init_199 : decode cX8_init 199 = .ok (.newarray .int, 2) := by decide +kernel
theorem dX8_init_201 : decode cX8_init 201 = .ok (.putfield 74, 3) := by decide +kernel
theorem dX8_init_204 : decode cX8_init 204 = .ok (.aload_n 0, 1) := by decide +kernel
theorem dX8_init_205 : decode cX8_init 205 = .ok (.bipush 8, 2) := by decide +kernel
theorem dX8_init_207 : decode cX8_init 207 = .ok (.newarray .int, 2) := by decide +kernel
theorem dX8_init_209 : decode cX8_init 209 = .ok (.putfield 77, 3) := by decide +kernel
theorem dX8_init_212 : decode cX8_init 212 = .ok (.aload_n 0, 1) := by decide +kernel
theorem dX8_init_213 : decode cX8_init 213 = .ok (.bipush 8, 2) := by decide +kernel
theorem dX8_init_215 : decode cX8_init 215 = .ok (.newarray .boolean, 2) := by decide +kernel
theorem dX8_init_217 : decode cX8_init 217 = .ok (.putfield 80, 3) := by decide +kernel
theorem dX8_init_220 : decode cX8_init 220 = .ok (.aload_n 0, 1) := by decide +kernel
theorem dX8_init_221 : decode cX8_init 221 = .ok (.bipush 8, 2) := by decide +kernel
theorem dX8_init_223 : decode cX8_init 223 = .ok (.newarray .int, 2) := by decide +kernel
theorem dX8_init_225 : decode cX8_init 225 = .ok (.putfield 84, 3) := by decide +kernel
theorem dX8_init_228 : decode cX8_init 228 = .ok (.aload_n 0, 1) := by decide +kernel
theorem dX8_init_229 : decode cX8_init 229 = .ok (.bipush 8, 2) := by decide +kernel
theorem dX8_init_231 : decode cX8_init 231 = .ok (.newarray .int, 2) := by decide +kernel
theorem dX8_init_233 : decode cX8_init 233 = .ok (.putfield 87, 3) := by decide +kernel
theorem dX8_init_236 : decode cX8_init 236 = .ok (.aload_n 0, 1) := by decide +kernel
theorem dX8_init_237 : decode cX8_init 237 = .ok (.iconst 3, 1) := by decide +kernel
theorem dX8_init_238 : decode cX8_init 238 = .ok (.newarray .int, 2) := by decide +kernel
theorem dX8_init_240 : decode cX8_init 240 = .ok (.putfield 90, 3) := by decide +kernel
theorem dX8_init_243 : decode cX8_init 243 = .ok (.aload_n 0, 1) := by decide +kernel
theorem dX8_init_244 : decode cX8_init 244 = .ok (.iconst 3, 1) := by decide +kernel
theorem dX8_init_245 : decode cX8_init 245 = .ok (.newarray .int, 2) := by decide +kernel
theorem dX8_init_247 : decode cX8_init 247 = .ok (.putfield 93, 3) := by decide +kernel
theorem dX8_init_250 : decode cX8_init 250 = .ok (.aload_n 0, 1) := by decide +kernel
theorem dX8_init_251 : decode cX8_init 251 = .ok (.iconst 3, 1) := by decide +kernel
theorem dX8_init_252 : decode cX8_init 252 = .ok (.newarray .int, 2) := by decide +kernel
theorem dX8_init_254 : decode cX8_init 254 = .ok (.putfield 96, 3) := by decide +kernel
theorem dX8_init_257 : decode cX8_init 257 = .ok (.aload_n 0, 1) := by decide +kernel
theorem dX8_init_258 : decode cX8_init 258 = .ok (.bipush 12, 2) := by decide +kernel
theorem dX8_init_260 : decode cX8_init 260 = .ok (.newarray .int, 2) := by decide +kernel
theorem dX8_init_262 : decode cX8_init 262 = .ok (.putfield 99, 3) := by decide +kernel
theorem dX8_init_265 : decode cX8_init 265 = .ok (.aload_n 0, 1) := by decide +kernel
theorem dX8_init_266 : decode cX8_init 266 = .ok (.bipush 12, 2) := by decide +kernel
theorem dX8_init_268 : decode cX8_init 268 = .ok (.newarray .int, 2) := by decide +kernel
theorem dX8_init_270 : decode cX8_init 270 = .ok (.putfield 102, 3) := by decide +kernel
theorem dX8_init_273 : decode cX8_init 273 = .ok (.aload_n 0, 1) := by decide +kernel
theorem dX8_init_274 : decode cX8_init 274 = .ok (.iconst 5, 1) := by decide +kernel
theorem dX8_init_275 : decode cX8_init 275 = .ok (.newarray .int, 2) := by decide +kernel
theorem dX8_init_277 : decode cX8_init 277 = .ok (.putfield 105, 3) := by decide +kernel
theorem dX8_init_280 : decode cX8_init 280 = .ok (.aload_n 0, 1) := by decide +kernel
theorem dX8_init_281 : decode cX8_init 281 = .ok (.iconst 5, 1) := by decide +kernel
end
section
theorem dX8_init_282 : decode cX8_init 282 = .ok (.newarray .int, 2) := by decide +kernel
theorem dX8_init_284 : decode cX8_init 284 = .ok (.putfield 108, 3) := by decide +kernel
theorem dX8_init_287 : decode cX8_init 287 = .ok (.aload_n 0, 1) := by decide +kernel
theorem dX8_init_288 : decode cX8_init 288 = .ok (.iconst 5, 1) := by decide +kernel
theorem dX8_init_289 : decode cX8_init 289 = .ok (.newarray .int, 2) := by decide +kernel
theorem dX8_init_291 : decode cX8_init 291 = .ok (.putfield 111, 3) := by decide +kernel
theorem dX8_init_294 : decode cX8_init 294 = .ok (.aload_n 0, 1) := by decide +kernel
theorem dX8_init_295 : decode cX8_init 295 = .ok (.bipush 6, 2) := by decide +kernel
theorem dX8_init_297 : decode cX8_init 297 = .ok (.newarray .int, 2) := by decide +kernel
theorem dX8_init_299 : decode cX8_init 299 = .ok (.putfield 114, 3) := by decide +kernel
theorem dX8_init_302 : decode cX8_init 302 = .ok (.aload_n 0, 1) := by decide +kernel
theorem dX8_init_303 : decode cX8_init 303 = .ok (.bipush 8, 2) := by decide +kernel
theorem dX8_init_305 : decode cX8_init 305 = .ok (.newarray .int, 2) := by decide +kernel
theorem dX8_init_307 : decode cX8_init 307 = .ok (.putfield 117, 3) := by decide +kernel
theorem dX8_init_310 : decode cX8_init 310 = .ok (.aload_n 0, 1) := by decide +kernel
theorem dX8_init_311 : decode cX8_init 311 = .ok (.iconst 3, 1) := by decide +kernel
theorem dX8_init_312 : decode cX8_init 312 = .ok (.newarray .int, 2) := by decide +kernel
theorem dX8_init_314 : decode cX8_init 314 = .ok (.putfield 120, 3) := by decide +kernel
theorem dX8_init_317 : decode cX8_init 317 = .ok (.iconst 0, 1) := by decide +kernel
theorem dX8_init_318 : decode cX8_init 318 = .ok (.istore_n 1, 1) := by decide +kernel
theorem dX8_init_319 : decode cX8_init 319 = .ok (.iload_n 1, 1) := by decide +kernel
theorem dX8_init_320 : decode cX8_init 320 = .ok (.bipush 12, 2) := by decide +kernel
theorem dX8_init_322 : decode cX8_init 322 = .ok (.if_icmp .ge 16, 3) := by decide +kernel
theorem dX8_init_325 : decode cX8_init 325 = .ok (.aload_n 0, 1) := by decide +kernel
theorem dX8_init_326 : decode cX8_init 326 = .ok (.getfield 99, 3) := by decide +kernel
theorem dX8_init_329 : decode cX8_init 329 = .ok (.iload_n 1, 1) := by decide +kernel
theorem dX8_init_330 : decode cX8_init 330 = .ok (.iconst 4, 1) := by decide +kernel
theorem dX8_init_331 : decode cX8_init 331 = .ok (.iastore, 1) := by decide +kernel
theorem dX8_init_332 : decode cX8_init 332 = .ok (.iinc 1 1, 3) := by decide +kernel
theorem dX8_init_335 : decode cX8_init 335 = .ok (.goto (-16), 3) := by decide +kernel
theorem dX8_init_338 : decode cX8_init 338 = .ok (.iconst 0, 1) := by decide +kernel
theorem dX8_init_339 : decode cX8_init 339 = .ok (.istore_n 1, 1) := by decide +kernel
theorem dX8_init_340 : decode cX8_init 340 = .ok (.iload_n 1, 1) := by decide +kernel
theorem dX8_init_341 : decode cX8_init 341 = .ok (.iconst 5, 1) := by decide +kernel
theorem dX8_init_342 : decode cX8_init 342 = .ok (.if_icmp .ge 39, 3) := by decide +kernel
theorem dX8_init_345 : decode cX8_init 345 = .ok (.aload_n 0, 1) := by decide +kernel
theorem dX8_init_346 : decode cX8_init 346 = .ok (.getfield 105, 3) := by decide +kernel
theorem dX8_init_349 : decode cX8_init 349 = .ok (.iload_n 1, 1) := by decide +kernel
theorem dX8_init_350 : decode cX8_init 350 = .ok (.bipush 100, 2) := by decide +kernel
theorem dX8_init_352 : decode cX8_init 352 = .ok (.iload_n 1, 1) := by decide +kernel
theorem dX8_init_353 : decode cX8_init 353 = .ok (.imul, 1) := by decide +kernel
theorem dX8_init_354 : decode cX8_init 354 = .ok (.iastore, 1) := by decide +kernel
theorem dX8_init_355 : decode cX8_init 355 = .ok (.aload_n 0, 1) := by decide +kernel
theorem dX8_init_356 : decode cX8_init 356 = .ok (.getfield 108, 3) := by decide +kernel
theorem dX8_init_359 : decode cX8_init 359 = .ok (.iload_n 1, 1) := by decide +kernel
theorem dX8_init_360 : decode cX8_init 360 = .ok (.bipush 50, 2) := by decide +kernel
theorem dX8_init_362 : decode cX8_init 362 = .ok (.iload_n 1, 1) := by decide +kernel
theorem dX8_init_363 : decode cX8_init 363 = .ok (.imul, 1) := by decide +kernel
theorem dX8_init_364 : decode cX8_init 364 = .ok (.iastore, 1) := by decide +kernel
theorem dX8_init_365 : decode cX8_init 365 = .ok (.aload_n 0, 1) := by decide +kernel
theorem dX8_init_366 : decode cX8_init 366 = .ok (.getfield 111, 3) := by decide +kernel
theorem dX8_init_369 : decode cX8_init 369 = .ok (.iload_n 1, 1) := by decide +kernel
theorem dX8_init_370 : decode cX8_init 370 = .ok (.bipush 80, 2) := by decide +kernel
theorem dX8_init_372 : decode cX8_init 372 = .ok (.iload_n 1, 1) := by decide +kernel
theorem dX8_init_373 : decode cX8_init 373 = .ok (.imul, 1) := by decide +kernel
theorem dX8_init_374 : decode cX8_init 374 = .ok (.iastore, 1) := by decide +kernel
theorem dX8_init_375 : decode cX8_init 375 = .ok (.iinc 1 1, 3) := by decide +kernel
theorem dX8_init_378 : decode cX8_init 378 = .ok (.goto (-38), 3) := by decide +kernel
theorem dX8_init_381 : decode cX8_init 381 = .ok (.return_, 1) := by decide +kernel
theorem dX8_in_0 : decode cX8_in 0 = .ok (.iload_n 0, 1) := by decide +kernel
theorem dX8_in_1 : decode cX8_in 1 = .ok (.iload_n 1, 1) := by decide +kernel
theorem dX8_in_2 : decode cX8_in 2 = .ok (.if_icmp .lt 12, 3) := by decide +kernel
theorem dX8_in_5 : decode cX8_in 5 = .ok (.iload_n 0, 1) := by decide +kernel
theorem dX8_in_6 : decode cX8_in 6 = .ok (.iload_n 2, 1) := by decide +kernel
theorem dX8_in_7 : decode cX8_in 7 = .ok (.if_icmp .gt 7, 3) := by decide +kernel
theorem dX8_in_10 : decode cX8_in 10 = .ok (.iconst 1, 1) := by decide +kernel
theorem dX8_in_11 : decode cX8_in 11 = .ok (.goto 4, 3) := by decide +kernel
theorem dX8_in_14 : decode cX8_in 14 = .ok (.iconst 0, 1) := by decide +kernel
theorem dX8_in_15 : decode cX8_in 15 = .ok (.ireturn, 1) := by decide +kernel
theorem dX8_buy_0 : decode cX8_buy 0 = .ok (.iload_n 1, 1) := by decide +kernel
theorem dX8_buy_1 : decode cX8_buy 1 = .ok (.iconst 0, 1) := by decide +kernel
theorem dX8_buy_2 : decode cX8_buy 2 = .ok (.iconst 5, 1) := by decide +kernel
theorem dX8_buy_3 : decode cX8_buy 3 = .ok (.invokestatic 123, 3) := by decide +kernel
theorem dX8_buy_6 : decode cX8_buy 6 = .ok (.ifCond .eq 14, 3) := by decide +kernel
theorem dX8_buy_9 : decode cX8_buy 9 = .ok (.iload_n 2, 1) := by decide +kernel
theorem dX8_buy_10 : decode cX8_buy 10 = .ok (.iconst 0, 1) := by decide +kernel
theorem dX8_buy_11 : decode cX8_buy 11 = .ok (.sipush 10000, 3) := by decide +kernel
theorem dX8_buy_14 : decode cX8_buy 14 = .ok (.invokestatic 123, 3) := by decide +kernel
theorem dX8_buy_17 : decode cX8_buy 17 = .ok (.ifCond .ne 6, 3) := by decide +kernel
theorem dX8_buy_20 : decode cX8_buy 20 = .ok (.bipush (-2), 2) := by decide +kernel
theorem dX8_buy_22 : decode cX8_buy 22 = .ok (.ireturn, 1) := by decide +kernel
theorem dX8_buy_23 : decode cX8_buy 23 = .ok (.aload_n 0, 1) := by decide +kernel
theorem dX8_buy_24 : decode cX8_buy 24 = .ok (.getfield 7, 3) := by decide +kernel
theorem dX8_buy_27 : decode cX8_buy 27 = .ok (.iload_n 1, 1) := by decide +kernel
theorem dX8_buy_28 : decode cX8_buy 28 = .ok (.iaload, 1) := by decide +kernel
theorem dX8_buy_29 : decode cX8_buy 29 = .ok (.iload_n 2, 1) := by decide +kernel
theorem dX8_buy_30 : decode cX8_buy 30 = .ok (.iadd, 1) := by decide +kernel
theorem dX8_buy_31 : decode cX8_buy 31 = .ok (.sipush 10000, 3) := by decide +kernel
theorem dX8_buy_34 : decode cX8_buy 34 = .ok (.if_icmp .le 6, 3) := by decide +kernel
theorem dX8_buy_37 : decode cX8_buy 37 = .ok (.bipush (-3), 2) := by decide +kernel
theorem dX8_buy_39 : decode cX8_buy 39 = .ok (.ireturn, 1) := by decide +kernel
theorem dX8_buy_40 : decode cX8_buy 40 = .ok (.aload_n 0, 1) := by decide +kernel
theorem dX8_buy_41 : decode cX8_buy 41 = .ok (.getfield 7, 3) := by decide +kernel
theorem dX8_buy_44 : decode cX8_buy 44 = .ok (.iload_n 1, 1) := by decide +kernel
theorem dX8_buy_45 : decode cX8_buy 45 = .ok (.dup2, 1) := by decide +kernel
theorem dX8_buy_46 : decode cX8_buy 46 = .ok (.iaload, 1) := by decide +kernel
theorem dX8_buy_47 : decode cX8_buy 47 = .ok (.iload_n 2, 1) := by decide +kernel
theorem dX8_buy_48 : decode cX8_buy 48 = .ok (.iadd, 1) := by decide +kernel
theorem dX8_buy_49 : decode cX8_buy 49 = .ok (.iastore, 1) := by decide +kernel
theorem dX8_buy_50 : decode cX8_buy 50 = .ok (.aload_n 0, 1) := by decide +kernel
theorem dX8_buy_51 : decode cX8_buy 51 = .ok (.getfield 7, 3) := by decide +kernel
theorem dX8_buy_54 : decode cX8_buy 54 = .ok (.iload_n 1, 1) := by decide +kernel
theorem dX8_buy_55 : decode cX8_buy 55 = .ok (.iaload, 1) := by decide +kernel
theorem dX8_buy_56 : decode cX8_buy 56 = .ok (.ireturn, 1) := by decide +kernel
theorem dX8_store_0 : decode cX8_store 0 = .ok (.iload_n 1, 1) := by decide +kernel
theorem dX8_store_1 : decode cX8_store 1 = .ok (.iconst 0, 1) := by decide +kernel
theorem dX8_store_2 : decode cX8_store 2 = .ok (.iconst 5, 1) := by decide +kernel
theorem dX8_store_3 : decode cX8_store 3 = .ok (.invokestatic 123, 3) := by decide +kernel
theorem dX8_store_6 : decode cX8_store 6 = .ok (.ifCond .eq 12, 3) := by decide +kernel
theorem dX8_store_9 : decode cX8_store 9 = .ok (.aload_n 0, 1) := by decide +kernel
theorem dX8_store_10 : decode cX8_store 10 = .ok (.getfield 7, 3) := by decide +kernel
theorem dX8_store_13 : decode cX8_store 13 = .ok (.iload_n 1, 1) := by decide +kernel
theorem dX8_store_14 : decode cX8_store 14 = .ok (.iaload, 1) := by decide +kernel
theorem dX8_store_15 : decode cX8_store 15 = .ok (.goto 5, 3) := by decide +kernel
theorem dX8_store_18 : decode cX8_store 18 = .ok (.bipush (-2), 2) := by decide +kernel
theorem dX8_store_20 : decode cX8_store 20 = .ok (.ireturn, 1) := by decide +kernel
theorem dX8_rich_0 : decode cX8_rich 0 = .ok (.iload_n 1, 1) := by decide +kernel
theorem dX8_rich_1 : decode cX8_rich 1 = .ok (.iconst 0, 1) := by decide +kernel
theorem dX8_rich_2 : decode cX8_rich 2 = .ok (.iconst 3, 1) := by decide +kernel
theorem dX8_rich_3 : decode cX8_rich 3 = .ok (.invokestatic 123, 3) := by decide +kernel
theorem dX8_rich_6 : decode cX8_rich 6 = .ok (.ifCond .eq 14, 3) := by decide +kernel
theorem dX8_rich_9 : decode cX8_rich 9 = .ok (.iload_n 2, 1) := by decide +kernel
theorem dX8_rich_10 : decode cX8_rich 10 = .ok (.bipush 10, 2) := by decide +kernel
theorem dX8_rich_12 : decode cX8_rich 12 = .ok (.bipush 60, 2) := by decide +kernel
theorem dX8_rich_14 : decode cX8_rich 14 = .ok (.invokestatic 123, 3) := by decide +kernel
theorem dX8_rich_17 : decode cX8_rich 17 = .ok (.ifCond .ne 6, 3) := by decide +kernel
theorem dX8_rich_20 : decode cX8_rich 20 = .ok (.bipush (-2), 2) := by decide +kernel
theorem dX8_rich_22 : decode cX8_rich 22 = .ok (.ireturn, 1) := by decide +kernel
theorem dX8_rich_23 : decode cX8_rich 23 = .ok (.aload_n 0, 1) := by decide +kernel
theorem dX8_rich_24 : decode cX8_rich 24 = .ok (.getfield 13, 3) := by decide +kernel
theorem dX8_rich_27 : decode cX8_rich 27 = .ok (.iload_n 1, 1) := by decide +kernel
theorem dX8_rich_28 : decode cX8_rich 28 = .ok (.iaload, 1) := by decide +kernel
theorem dX8_rich_29 : decode cX8_rich 29 = .ok (.istore_n 3, 1) := by decide +kernel
theorem dX8_rich_30 : decode cX8_rich 30 = .ok (.aload_n 0, 1) := by decide +kernel
theorem dX8_rich_31 : decode cX8_rich 31 = .ok (.getfield 13, 3) := by decide +kernel
theorem dX8_rich_34 : decode cX8_rich 34 = .ok (.iload_n 1, 1) := by decide +kernel
theorem dX8_rich_35 : decode cX8_rich 35 = .ok (.iload_n 2, 1) := by decide +kernel
theorem dX8_rich_36 : decode cX8_rich 36 = .ok (.iastore, 1) := by decide +kernel
theorem dX8_rich_37 : decode cX8_rich 37 = .ok (.iload_n 3, 1) := by decide +kernel
theorem dX8_rich_38 : decode cX8_rich 38 = .ok (.ireturn, 1) := by decide +kernel
theorem dX8_charge_0 : decode cX8_charge 0 = .ok (.iload_n 1, 1) := by decide +kernel
theorem dX8_charge_1 : decode cX8_charge 1 = .ok (.iconst 1, 1) := by decide +kernel
theorem dX8_charge_2 : decode cX8_charge 2 = .ok (.bipush 60, 2) := by decide +kernel
theorem dX8_charge_4 : decode cX8_charge 4 = .ok (.invokestatic 123, 3) := by decide +kernel
theorem dX8_charge_7 : decode cX8_charge 7 = .ok (.ifCond .eq 33, 3) := by decide +kernel
theorem dX8_charge_10 : decode cX8_charge 10 = .ok (.iload_n 2, 1) := by decide +kernel
theorem dX8_charge_11 : decode cX8_charge 11 = .ok (.iconst 0, 1) := by decide +kernel
theorem dX8_charge_12 : decode cX8_charge 12 = .ok (.iconst 3, 1) := by decide +kernel
theorem dX8_charge_13 : decode cX8_charge 13 = .ok (.invokestatic 123, 3) := by decide +kernel
theorem dX8_charge_16 : decode cX8_charge 16 = .ok (.ifCond .eq 24, 3) := by decide +kernel
theorem dX8_charge_19 : decode cX8_charge 19 = .ok (.iload_n 3, 1) := by decide +kernel
theorem dX8_charge_20 : decode cX8_charge 20 = .ok (.iconst 0, 1) := by decide +kernel
theorem dX8_charge_21 : decode cX8_charge 21 = .ok (.bipush 60, 2) := by decide +kernel
theorem dX8_charge_23 : decode cX8_charge 23 = .ok (.invokestatic 123, 3) := by decide +kernel
theorem dX8_charge_26 : decode cX8_charge 26 = .ok (.ifCond .eq 14, 3) := by decide +kernel
theorem dX8_charge_29 : decode cX8_charge 29 = .ok (.iload 4, 2) := by decide +kernel
theorem dX8_charge_31 : decode cX8_charge 31 = .ok (.iconst 0, 1) := by decide +kernel
theorem dX8_charge_32 : decode cX8_charge 32 = .ok (.bipush 30, 2) := by decide +kernel
theorem dX8_charge_34 : decode cX8_charge 34 = .ok (.invokestatic 123, 3) := by decide +kernel
theorem dX8_charge_37 : decode cX8_charge 37 = .ok (.ifCond .ne 6, 3) := by decide +kernel
theorem dX8_charge_40 : decode cX8_charge 40 = .ok (.bipush (-2), 2) := by decide +kernel
theorem dX8_charge_42 : decode cX8_charge 42 = .ok (.ireturn, 1) := by decide +kernel
theorem dX8_charge_43 : decode cX8_charge 43 = .ok (.aload_n 0, 1) := by decide +kernel
theorem dX8_charge_44 : decode cX8_charge 44 = .ok (.getfield 7, 3) := by decide +kernel
theorem dX8_charge_47 : decode cX8_charge 47 = .ok (.iconst 0, 1) := by decide +kernel
theorem dX8_charge_48 : decode cX8_charge 48 = .ok (.iaload, 1) := by decide +kernel
theorem dX8_charge_49 : decode cX8_charge 49 = .ok (.iload_n 1, 1) := by decide +kernel
theorem dX8_charge_50 : decode cX8_charge 50 = .ok (.if_icmp .lt 26, 3) := by decide +kernel
theorem dX8_charge_53 : decode cX8_charge 53 = .ok (.aload_n 0, 1) := by decide +kernel
theorem dX8_charge_54 : decode cX8_charge 54 = .ok (.getfield 7, 3) := by decide +kernel
theorem dX8_charge_57 : decode cX8_charge 57 = .ok (.iconst 1, 1) := by decide +kernel
theorem dX8_charge_58 : decode cX8_charge 58 = .ok (.iaload, 1) := by decide +kernel
theorem dX8_charge_59 : decode cX8_charge 59 = .ok (.iload 4, 2) := by decide +kernel
theorem dX8_charge_61 : decode cX8_charge 61 = .ok (.if_icmp .lt 15, 3) := by decide +kernel
theorem dX8_charge_64 : decode cX8_charge 64 = .ok (.aload_n 0, 1) := by decide +kernel
theorem dX8_charge_65 : decode cX8_charge 65 = .ok (.getfield 7, 3) := by decide +kernel
theorem dX8_charge_68 : decode cX8_charge 68 = .ok (.iconst 2, 1) := by decide +kernel
theorem dX8_charge_69 : decode cX8_charge 69 = .ok (.iload_n 2, 1) := by decide +kernel
theorem dX8_charge_70 : decode cX8_charge 70 = .ok (.iadd, 1) := by decide +kernel
theorem dX8_charge_71 : decode cX8_charge 71 = .ok (.iaload, 1) := by decide +kernel
theorem dX8_charge_72 : decode cX8_charge 72 = .ok (.iload_n 3, 1) := by decide +kernel
theorem dX8_charge_73 : decode cX8_charge 73 = .ok (.if_icmp .ge 6, 3) := by decide +kernel
theorem dX8_charge_76 : decode cX8_charge 76 = .ok (.bipush (-3), 2) := by decide +kernel
theorem dX8_charge_78 : decode cX8_charge 78 = .ok (.ireturn, 1) := by decide +kernel
theorem dX8_charge_79 : decode cX8_charge 79 = .ok (.aload_n 0, 1) := by decide +kernel
theorem dX8_charge_80 : decode cX8_charge 80 = .ok (.getfield 127, 3) := by decide +kernel
theorem dX8_charge_83 : decode cX8_charge 83 = .ok (.aload_n 0, 1) := by decide +kernel
theorem dX8_charge_84 : decode cX8_charge 84 = .ok (.getfield 130, 3) := by decide +kernel
theorem dX8_charge_87 : decode cX8_charge 87 = .ok (.isub, 1) := by decide +kernel
theorem dX8_charge_88 : decode cX8_charge 88 = .ok (.bipush 12, 2) := by decide +kernel
theorem dX8_charge_90 : decode cX8_charge 90 = .ok (.if_icmp .eq 13, 3) := by decide +kernel
theorem dX8_charge_93 : decode cX8_charge 93 = .ok (.aload_n 0, 1) := by decide +kernel
theorem dX8_charge_94 : decode cX8_charge 94 = .ok (.getfield 127, 3) := by decide +kernel
theorem dX8_charge_97 : decode cX8_charge 97 = .ok (.sipush 400, 3) := by decide +kernel
theorem dX8_charge_100 : decode cX8_charge 100 = .ok (.if_icmp .ne 6, 3) := by decide +kernel
theorem dX8_charge_103 : decode cX8_charge 103 = .ok (.bipush (-4), 2) := by decide +kernel
theorem dX8_charge_105 : decode cX8_charge 105 = .ok (.ireturn, 1) := by decide +kernel
theorem dX8_charge_106 : decode cX8_charge 106 = .ok (.aload_n 0, 1) := by decide +kernel
theorem dX8_charge_107 : decode cX8_charge 107 = .ok (.getfield 7, 3) := by decide +kernel
theorem dX8_charge_110 : decode cX8_charge 110 = .ok (.iconst 0, 1) := by decide +kernel
theorem dX8_charge_111 : decode cX8_charge 111 = .ok (.dup2, 1) := by decide +kernel
theorem dX8_charge_112 : decode cX8_charge 112 = .ok (.iaload, 1) := by decide +kernel
theorem dX8_charge_113 : decode cX8_charge 113 = .ok (.iload_n 1, 1) := by decide +kernel
theorem dX8_charge_114 : decode cX8_charge 114 = .ok (.isub, 1) := by decide +kernel
theorem dX8_charge_115 : decode cX8_charge 115 = .ok (.iastore, 1) := by decide +kernel
theorem dX8_charge_116 : decode cX8_charge 116 = .ok (.aload_n 0, 1) := by decide +kernel
theorem dX8_charge_117 : decode cX8_charge 117 = .ok (.getfield 7, 3) := by decide +kernel
theorem dX8_charge_120 : decode cX8_charge 120 = .ok (.iconst 1, 1) := by decide +kernel
theorem dX8_charge_121 : decode cX8_charge 121 = .ok (.dup2, 1) := by decide +kernel
theorem dX8_charge_122 : decode cX8_charge 122 = .ok (.iaload, 1) := by decide +kernel
theorem dX8_charge_123 : decode cX8_charge 123 = .ok (.iload 4, 2) := by decide +kernel
theorem dX8_charge_125 : decode cX8_charge 125 = .ok (.isub, 1) := by decide +kernel
theorem dX8_charge_126 : decode cX8_charge 126 = .ok (.iastore, 1) := by decide +kernel
theorem dX8_charge_127 : decode cX8_charge 127 = .ok (.aload_n 0, 1) := by decide +kernel
theorem dX8_charge_128 : decode cX8_charge 128 = .ok (.getfield 7, 3) := by decide +kernel
theorem dX8_charge_131 : decode cX8_charge 131 = .ok (.iconst 2, 1) := by decide +kernel
theorem dX8_charge_132 : decode cX8_charge 132 = .ok (.iload_n 2, 1) := by decide +kernel
theorem dX8_charge_133 : decode cX8_charge 133 = .ok (.iadd, 1) := by decide +kernel
theorem dX8_charge_134 : decode cX8_charge 134 = .ok (.dup2, 1) := by decide +kernel
theorem dX8_charge_135 : decode cX8_charge 135 = .ok (.iaload, 1) := by decide +kernel
theorem dX8_charge_136 : decode cX8_charge 136 = .ok (.iload_n 3, 1) := by decide +kernel
theorem dX8_charge_137 : decode cX8_charge 137 = .ok (.isub, 1) := by decide +kernel
theorem dX8_charge_138 : decode cX8_charge 138 = .ok (.iastore, 1) := by decide +kernel
theorem dX8_charge_139 : decode cX8_charge 139 = .ok (.aload_n 0, 1) := by decide +kernel
theorem dX8_charge_140 : decode cX8_charge 140 = .ok (.getfield 16, 3) := by decide +kernel
theorem dX8_charge_143 : decode cX8_charge 143 = .ok (.aload_n 0, 1) := by decide +kernel
theorem dX8_charge_144 : decode cX8_charge 144 = .ok (.getfield 127, 3) := by decide +kernel
theorem dX8_charge_147 : decode cX8_charge 147 = .ok (.iconst 0, 1) := by decide +kernel
theorem dX8_charge_148 : decode cX8_charge 148 = .ok (.iastore, 1) := by decide +kernel
theorem dX8_charge_149 : decode cX8_charge 149 = .ok (.aload_n 0, 1) := by decide +kernel
theorem dX8_charge_150 : decode cX8_charge 150 = .ok (.getfield 19, 3) := by decide +kernel
theorem dX8_charge_153 : decode cX8_charge 153 = .ok (.aload_n 0, 1) := by decide +kernel
theorem dX8_charge_154 : decode cX8_charge 154 = .ok (.getfield 127, 3) := by decide +kernel
theorem dX8_charge_157 : decode cX8_charge 157 = .ok (.iload_n 1, 1) := by decide +kernel
theorem dX8_charge_158 : decode cX8_charge 158 = .ok (.iastore, 1) := by decide +kernel
theorem dX8_charge_159 : decode cX8_charge 159 = .ok (.aload_n 0, 1) := by decide +kernel
theorem dX8_charge_160 : decode cX8_charge 160 = .ok (.getfield 22, 3) := by decide +kernel
theorem dX8_charge_163 : decode cX8_charge 163 = .ok (.aload_n 0, 1) := by decide +kernel
theorem dX8_charge_164 : decode cX8_charge 164 = .ok (.getfield 127, 3) := by decide +kernel
theorem dX8_charge_167 : decode cX8_charge 167 = .ok (.iload_n 3, 1) := by decide +kernel
theorem dX8_charge_168 : decode cX8_charge 168 = .ok (.iastore, 1) := by decide +kernel
theorem dX8_charge_169 : decode cX8_charge 169 = .ok (.aload_n 0, 1) := by decide +kernel
theorem dX8_charge_170 : decode cX8_charge 170 = .ok (.getfield 25, 3) := by decide +kernel
theorem dX8_charge_173 : decode cX8_charge 173 = .ok (.aload_n 0, 1) := by decide +kernel
theorem dX8_charge_174 : decode cX8_charge 174 = .ok (.getfield 127, 3) := by decide +kernel
theorem dX8_charge_177 : decode cX8_charge 177 = .ok (.iload 4, 2) := by decide +kernel
theorem dX8_charge_179 : decode cX8_charge 179 = .ok (.iastore, 1) := by decide +kernel
theorem dX8_charge_180 : decode cX8_charge 180 = .ok (.aload_n 0, 1) := by decide +kernel
theorem dX8_charge_181 : decode cX8_charge 181 = .ok (.getfield 28, 3) := by decide +kernel
theorem dX8_charge_184 : decode cX8_charge 184 = .ok (.aload_n 0, 1) := by decide +kernel
theorem dX8_charge_185 : decode cX8_charge 185 = .ok (.getfield 127, 3) := by decide +kernel
theorem dX8_charge_188 : decode cX8_charge 188 = .ok (.iload_n 2, 1) := by decide +kernel
theorem dX8_charge_189 : decode cX8_charge 189 = .ok (.iastore, 1) := by decide +kernel
theorem dX8_charge_190 : decode cX8_charge 190 = .ok (.aload_n 0, 1) := by decide +kernel
theorem dX8_charge_191 : decode cX8_charge 191 = .ok (.getfield 31, 3) := by decide +kernel
theorem dX8_charge_194 : decode cX8_charge 194 = .ok (.aload_n 0, 1) := by decide +kernel
theorem dX8_charge_195 : decode cX8_charge 195 = .ok (.getfield 127, 3) := by decide +kernel
theorem dX8_charge_198 : decode cX8_charge 198 = .ok (.iconst (-1), 1) := by decide +kernel
theorem dX8_charge_199 : decode cX8_charge 199 = .ok (.iastore, 1) := by decide +kernel
theorem dX8_charge_200 : decode cX8_charge 200 = .ok (.aload_n 0, 1) := by decide +kernel
theorem dX8_charge_201 : decode cX8_charge 201 = .ok (.getfield 34, 3) := by decide +kernel
theorem dX8_charge_204 : decode cX8_charge 204 = .ok (.aload_n 0, 1) := by decide +kernel
theorem dX8_charge_205 : decode cX8_charge 205 = .ok (.getfield 127, 3) := by decide +kernel
theorem dX8_charge_208 : decode cX8_charge 208 = .ok (.iconst 0, 1) := by decide +kernel
theorem dX8_charge_209 : decode cX8_charge 209 = .ok (.iastore, 1) := by decide +kernel
theorem dX8_charge_210 : decode cX8_charge 210 = .ok (.aload_n 0, 1) := by decide +kernel
theorem dX8_charge_211 : decode cX8_charge 211 = .ok (.dup, 1) := by decide +kernel
theorem dX8_charge_212 : decode cX8_charge 212 = .ok (.getfield 127, 3) := by decide +kernel
theorem dX8_charge_215 : decode cX8_charge 215 = .ok (.iconst 1, 1) := by decide +kernel
theorem dX8_charge_216 : decode cX8_charge 216 = .ok (.iadd, 1) := by decide +kernel
theorem dX8_charge_217 : decode cX8_charge 217 = .ok (.putfield 127, 3) := by decide +kernel
theorem dX8_charge_220 : decode cX8_charge 220 = .ok (.aload_n 0, 1) := by decide +kernel
theorem dX8_charge_221 : decode cX8_charge 221 = .ok (.getfield 127, 3) := by decide +kernel
theorem dX8_charge_224 : decode cX8_charge 224 = .ok (.iconst 1, 1) := by decide +kernel
theorem dX8_charge_225 : decode cX8_charge 225 = .ok (.isub, 1) := by decide +kernel
theorem dX8_charge_226 : decode cX8_charge 226 = .ok (.ireturn, 1) := by decide +kernel
theorem dX8_chargeAt_0 : decode cX8_chargeAt 0 = .ok (.iload_n 1, 1) := by decide +kernel
theorem dX8_chargeAt_1 : decode cX8_chargeAt 1 = .ok (.ifCond .lt 13, 3) := by decide +kernel
theorem dX8_chargeAt_4 : decode cX8_chargeAt 4 = .ok (.iload_n 2, 1) := by decide +kernel
theorem dX8_chargeAt_5 : decode cX8_chargeAt 5 = .ok (.iconst 0, 1) := by decide +kernel
theorem dX8_chargeAt_6 : decode cX8_chargeAt 6 = .ok (.bipush 6, 2) := by decide +kernel
theorem dX8_chargeAt_8 : decode cX8_chargeAt 8 = .ok (.invokestatic 123, 3) := by decide +kernel
theorem dX8_chargeAt_11 : decode cX8_chargeAt 11 = .ok (.ifCond .ne 6, 3) := by decide +kernel
theorem dX8_chargeAt_14 : decode cX8_chargeAt 14 = .ok (.bipush (-2), 2) := by decide +kernel
theorem dX8_chargeAt_16 : decode cX8_chargeAt 16 = .ok (.ireturn, 1) := by decide +kernel
theorem dX8_chargeAt_17 : decode cX8_chargeAt 17 = .ok (.iload_n 1, 1) := by decide +kernel
theorem dX8_chargeAt_18 : decode cX8_chargeAt 18 = .ok (.aload_n 0, 1) := by decide +kernel
theorem dX8_chargeAt_19 : decode cX8_chargeAt 19 = .ok (.getfield 127, 3) := by decide +kernel
theorem dX8_chargeAt_22 : decode cX8_chargeAt 22 = .ok (.if_icmp .lt 5, 3) := by decide +kernel
theorem dX8_chargeAt_25 : decode cX8_chargeAt 25 = .ok (.iconst (-1), 1) := by decide +kernel
theorem dX8_chargeAt_26 : decode cX8_chargeAt 26 = .ok (.ireturn, 1) := by decide +kernel
theorem dX8_chargeAt_27 : decode cX8_chargeAt 27 = .ok (.iload_n 2, 1) := by decide +kernel
theorem dX8_chargeAt_28 : decode cX8_chargeAt 28 = .ok (.tableswitch 82 0 5 #[40, 47, 54, 61, 68, 75], 40) := by decide +kernel
theorem dX8_chargeAt_68 : decode cX8_chargeAt 68 = .ok (.aload_n 0, 1) := by decide +kernel
theorem dX8_chargeAt_69 : decode cX8_chargeAt 69 = .ok (.getfield 16, 3) := by decide +kernel
theorem dX8_chargeAt_72 : decode cX8_chargeAt 72 = .ok (.iload_n 1, 1) := by decide +kernel
theorem dX8_chargeAt_73 : decode cX8_chargeAt 73 = .ok (.iaload, 1) := by decide +kernel
theorem dX8_chargeAt_74 : decode cX8_chargeAt 74 = .ok (.ireturn, 1) := by decide +kernel
theorem dX8_chargeAt_75 : decode cX8_chargeAt 75 = .ok (.aload_n 0, 1) := by decide +kernel
theorem dX8_chargeAt_76 : decode cX8_chargeAt 76 = .ok (.getfield 19, 3) := by decide +kernel
theorem dX8_chargeAt_79 : decode cX8_chargeAt 79 = .ok (.iload_n 1, 1) := by decide +kernel
theorem dX8_chargeAt_80 : decode cX8_chargeAt 80 = .ok (.iaload, 1) := by decide +kernel
theorem dX8_chargeAt_81 : decode cX8_chargeAt 81 = .ok (.ireturn, 1) := by decide +kernel
theorem dX8_chargeAt_82 : decode cX8_chargeAt 82 = .ok (.aload_n 0, 1) := by decide +kernel
theorem dX8_chargeAt_83 : decode cX8_chargeAt 83 = .ok (.getfield 22, 3) := by decide +kernel
theorem dX8_chargeAt_86 : decode cX8_chargeAt 86 = .ok (.iload_n 1, 1) := by decide +kernel
theorem dX8_chargeAt_87 : decode cX8_chargeAt 87 = .ok (.iaload, 1) := by decide +kernel
theorem dX8_chargeAt_88 : decode cX8_chargeAt 88 = .ok (.ireturn, 1) := by decide +kernel
theorem dX8_chargeAt_89 : decode cX8_chargeAt 89 = .ok (.aload_n 0, 1) := by decide +kernel
theorem dX8_chargeAt_90 : decode cX8_chargeAt 90 = .ok (.getfield 25, 3) := by decide +kernel
theorem dX8_chargeAt_93 : decode cX8_chargeAt 93 = .ok (.iload_n 1, 1) := by decide +kernel
theorem dX8_chargeAt_94 : decode cX8_chargeAt 94 = .ok (.iaload, 1) := by decide +kernel
theorem dX8_chargeAt_95 : decode cX8_chargeAt 95 = .ok (.ireturn, 1) := by decide +kernel
theorem dX8_chargeAt_96 : decode cX8_chargeAt 96 = .ok (.aload_n 0, 1) := by decide +kernel
theorem dX8_chargeAt_97 : decode cX8_chargeAt 97 = .ok (.getfield 28, 3) := by decide +kernel
theorem dX8_chargeAt_100 : decode cX8_chargeAt 100 = .ok (.iload_n 1, 1) := by decide +kernel
theorem dX8_chargeAt_101 : decode cX8_chargeAt 101 = .ok (.iaload, 1) := by decide +kernel
theorem dX8_chargeAt_102 : decode cX8_chargeAt 102 = .ok (.ireturn, 1) := by decide +kernel
theorem dX8_chargeAt_103 : decode cX8_chargeAt 103 = .ok (.aload_n 0, 1) := by decide +kernel
theorem dX8_chargeAt_104 : decode cX8_chargeAt 104 = .ok (.getfield 31, 3) := by decide +kernel
theorem dX8_chargeAt_107 : decode cX8_chargeAt 107 = .ok (.iload_n 1, 1) := by decide +kernel
theorem dX8_chargeAt_108 : decode cX8_chargeAt 108 = .ok (.iaload, 1) := by decide +kernel
theorem dX8_chargeAt_109 : decode cX8_chargeAt 109 = .ok (.ireturn, 1) := by decide +kernel
theorem dX8_chargeAt_110 : decode cX8_chargeAt 110 = .ok (.aload_n 0, 1) := by decide +kernel
theorem dX8_chargeAt_111 : decode cX8_chargeAt 111 = .ok (.getfield 34, 3) := by decide +kernel
theorem dX8_chargeAt_114 : decode cX8_chargeAt 114 = .ok (.iload_n 1, 1) := by decide +kernel
theorem dX8_chargeAt_115 : decode cX8_chargeAt 115 = .ok (.iaload, 1) := by decide +kernel
theorem dX8_chargeAt_116 : decode cX8_chargeAt 116 = .ok (.ireturn, 1) := by decide +kernel
theorem dX8_when_0 : decode cX8_when 0 = .ok (.iload_n 1, 1) := by decide +kernel
theorem dX8_when_1 : decode cX8_when 1 = .ok (.iconst 0, 1) := by decide +kernel
theorem dX8_when_2 : decode cX8_when 2 = .ok (.aload_n 0, 1) := by decide +kernel
theorem dX8_when_3 : decode cX8_when 3 = .ok (.getfield 127, 3) := by decide +kernel
theorem dX8_when_6 : decode cX8_when 6 = .ok (.iconst 1, 1) := by decide +kernel
theorem dX8_when_7 : decode cX8_when 7 = .ok (.isub, 1) := by decide +kernel
theorem dX8_when_8 : decode cX8_when 8 = .ok (.invokestatic 123, 3) := by decide +kernel
theorem dX8_when_11 : decode cX8_when 11 = .ok (.ifCond .ne 6, 3) := by decide +kernel
theorem dX8_when_14 : decode cX8_when 14 = .ok (.bipush (-2), 2) := by decide +kernel
theorem dX8_when_16 : decode cX8_when 16 = .ok (.ireturn, 1) := by decide +kernel
theorem dX8_when_17 : decode cX8_when 17 = .ok (.aload_n 0, 1) := by decide +kernel
theorem dX8_when_18 : decode cX8_when 18 = .ok (.getfield 16, 3) := by decide +kernel
theorem dX8_when_21 : decode cX8_when 21 = .ok (.iload_n 1, 1) := by decide +kernel
theorem dX8_when_22 : decode cX8_when 22 = .ok (.iaload, 1) := by decide +kernel
theorem dX8_when_23 : decode cX8_when 23 = .ok (.ifCond .ne 10, 3) := by decide +kernel
theorem dX8_when_26 : decode cX8_when 26 = .ok (.aload_n 0, 1) := by decide +kernel
theorem dX8_when_27 : decode cX8_when 27 = .ok (.getfield 133, 3) := by decide +kernel
theorem dX8_when_30 : decode cX8_when 30 = .ok (.ifCond .ne 5, 3) := by decide +kernel
theorem dX8_when_33 : decode cX8_when 33 = .ok (.iconst (-1), 1) := by decide +kernel
theorem dX8_when_34 : decode cX8_when 34 = .ok (.ireturn, 1) := by decide +kernel
theorem dX8_when_35 : decode cX8_when 35 = .ok (.iconst 0, 1) := by decide +kernel
theorem dX8_when_36 : decode cX8_when 36 = .ok (.istore_n 2, 1) := by decide +kernel
theorem dX8_when_37 : decode cX8_when 37 = .ok (.aload_n 0, 1) := by decide +kernel
theorem dX8_when_38 : decode cX8_when 38 = .ok (.getfield 130, 3) := by decide +kernel
theorem dX8_when_41 : decode cX8_when 41 = .ok (.istore_n 3, 1) := by decide +kernel
theorem dX8_when_42 : decode cX8_when 42 = .ok (.iload_n 3, 1) := by decide +kernel
theorem dX8_when_43 : decode cX8_when 43 = .ok (.iload_n 1, 1) := by decide +kernel
theorem dX8_when_44 : decode cX8_when 44 = .ok (.if_icmp .gt 18, 3) := by decide +kernel
theorem dX8_when_47 : decode cX8_when 47 = .ok (.iload_n 2, 1) := by decide +kernel
theorem dX8_when_48 : decode cX8_when 48 = .ok (.aload_n 0, 1) := by decide +kernel
theorem dX8_when_49 : decode cX8_when 49 = .ok (.getfield 19, 3) := by decide +kernel
theorem dX8_when_52 : decode cX8_when 52 = .ok (.iload_n 3, 1) := by decide +kernel
theorem dX8_when_53 : decode cX8_when 53 = .ok (.iaload, 1) := by decide +kernel
theorem dX8_when_54 : decode cX8_when 54 = .ok (.iadd, 1) := by decide +kernel
theorem dX8_when_55 : decode cX8_when 55 = .ok (.istore_n 2, 1) := by decide +kernel
theorem dX8_when_56 : decode cX8_when 56 = .ok (.iinc 3 1, 3) := by decide +kernel
theorem dX8_when_59 : decode cX8_when 59 = .ok (.goto (-17), 3) := by decide +kernel
theorem dX8_when_62 : decode cX8_when 62 = .ok (.iload_n 2, 1) := by decide +kernel
theorem dX8_when_63 : decode cX8_when 63 = .ok (.aload_n 0, 1) := by decide +kernel
theorem dX8_when_64 : decode cX8_when 64 = .ok (.getfield 133, 3) := by decide +kernel
theorem dX8_when_67 : decode cX8_when 67 = .ok (.iadd, 1) := by decide +kernel
theorem dX8_when_68 : decode cX8_when 68 = .ok (.iconst 1, 1) := by decide +kernel
theorem dX8_when_69 : decode cX8_when 69 = .ok (.isub, 1) := by decide +kernel
theorem dX8_when_70 : decode cX8_when 70 = .ok (.aload_n 0, 1) := by decide +kernel
theorem dX8_when_71 : decode cX8_when 71 = .ok (.getfield 133, 3) := by decide +kernel
theorem dX8_when_74 : decode cX8_when 74 = .ok (.idiv, 1) := by decide +kernel
theorem dX8_when_75 : decode cX8_when 75 = .ok (.ireturn, 1) := by decide +kernel
theorem dX8_blast_0 : decode cX8_blast 0 = .ok (.iload_n 1, 1) := by decide +kernel
theorem dX8_blast_1 : decode cX8_blast 1 = .ok (.iconst 0, 1) := by decide +kernel
theorem dX8_blast_2 : decode cX8_blast 2 = .ok (.bipush 20, 2) := by decide +kernel
theorem dX8_blast_4 : decode cX8_blast 4 = .ok (.invokestatic 123, 3) := by decide +kernel
theorem dX8_blast_7 : decode cX8_blast 7 = .ok (.ifCond .ne 6, 3) := by decide +kernel
theorem dX8_blast_10 : decode cX8_blast 10 = .ok (.bipush (-2), 2) := by decide +kernel
theorem dX8_blast_12 : decode cX8_blast 12 = .ok (.ireturn, 1) := by decide +kernel
theorem dX8_blast_13 : decode cX8_blast 13 = .ok (.aload_n 0, 1) := by decide +kernel
theorem dX8_blast_14 : decode cX8_blast 14 = .ok (.getfield 133, 3) := by decide +kernel
theorem dX8_blast_17 : decode cX8_blast 17 = .ok (.istore_n 2, 1) := by decide +kernel
theorem dX8_blast_18 : decode cX8_blast 18 = .ok (.aload_n 0, 1) := by decide +kernel
theorem dX8_blast_19 : decode cX8_blast 19 = .ok (.iload_n 1, 1) := by decide +kernel
theorem dX8_blast_20 : decode cX8_blast 20 = .ok (.putfield 133, 3) := by decide +kernel
theorem dX8_blast_23 : decode cX8_blast 23 = .ok (.iload_n 2, 1) := by decide +kernel
theorem dX8_blast_24 : decode cX8_blast 24 = .ok (.ireturn, 1) := by decide +kernel
theorem dX8_hearth_0 : decode cX8_hearth 0 = .ok (.iload_n 1, 1) := by decide +kernel
theorem dX8_hearth_1 : decode cX8_hearth 1 = .ok (.iconst 1, 1) := by decide +kernel
theorem dX8_hearth_2 : decode cX8_hearth 2 = .ok (.sipush 500, 3) := by decide +kernel
theorem dX8_hearth_5 : decode cX8_hearth 5 = .ok (.invokestatic 123, 3) := by decide +kernel
theorem dX8_hearth_8 : decode cX8_hearth 8 = .ok (.ifCond .eq 13, 3) := by decide +kernel
theorem dX8_hearth_11 : decode cX8_hearth 11 = .ok (.iload_n 2, 1) := by decide +kernel
theorem dX8_hearth_12 : decode cX8_hearth 12 = .ok (.iconst 1, 1) := by decide +kernel
theorem dX8_hearth_13 : decode cX8_hearth 13 = .ok (.ldc 136, 2) := by decide +kernel
theorem dX8_hearth_15 : decode cX8_hearth 15 = .ok (.invokestatic 123, 3) := by decide +kernel
theorem dX8_hearth_18 : decode cX8_hearth 18 = .ok (.ifCond .ne 6, 3) := by decide +kernel
theorem dX8_hearth_21 : decode cX8_hearth 21 = .ok (.bipush (-2), 2) := by decide +kernel
theorem dX8_hearth_23 : decode cX8_hearth 23 = .ok (.ireturn, 1) := by decide +kernel
theorem dX8_hearth_24 : decode cX8_hearth 24 = .ok (.aload_n 0, 1) := by decide +kernel
theorem dX8_hearth_25 : decode cX8_hearth 25 = .ok (.iload_n 1, 1) := by decide +kernel
theorem dX8_hearth_26 : decode cX8_hearth 26 = .ok (.putfield 37, 3) := by decide +kernel
theorem dX8_hearth_29 : decode cX8_hearth 29 = .ok (.aload_n 0, 1) := by decide +kernel
theorem dX8_hearth_30 : decode cX8_hearth 30 = .ok (.iload_n 2, 1) := by decide +kernel
theorem dX8_hearth_31 : decode cX8_hearth 31 = .ok (.putfield 41, 3) := by decide +kernel
theorem dX8_hearth_34 : decode cX8_hearth 34 = .ok (.iconst 1, 1) := by decide +kernel
theorem dX8_hearth_35 : decode cX8_hearth 35 = .ok (.ireturn, 1) := by decide +kernel
theorem dX8_act_0 : decode cX8_act 0 = .ok (.iload_n 1, 1) := by decide +kernel
theorem dX8_act_1 : decode cX8_act 1 = .ok (.ifCond .ne 30, 3) := by decide +kernel
theorem dX8_act_4 : decode cX8_act 4 = .ok (.aload_n 0, 1) := by decide +kernel
theorem dX8_act_5 : decode cX8_act 5 = .ok (.aload_n 0, 1) := by decide +kernel
theorem dX8_act_6 : decode cX8_act 6 = .ok (.getfield 133, 3) := by decide +kernel
theorem dX8_act_9 : decode cX8_act 9 = .ok (.bipush 20, 2) := by decide +kernel
theorem dX8_act_11 : decode cX8_act 11 = .ok (.if_icmp .ge 12, 3) := by decide +kernel
theorem dX8_act_14 : decode cX8_act 14 = .ok (.aload_n 0, 1) := by decide +kernel
theorem dX8_act_15 : decode cX8_act 15 = .ok (.getfield 133, 3) := by decide +kernel
theorem dX8_act_18 : decode cX8_act 18 = .ok (.iconst 1, 1) := by decide +kernel
theorem dX8_act_19 : decode cX8_act 19 = .ok (.iadd, 1) := by decide +kernel
theorem dX8_act_20 : decode cX8_act 20 = .ok (.goto 5, 3) := by decide +kernel
theorem dX8_act_23 : decode cX8_act 23 = .ok (.bipush 20, 2) := by decide +kernel
theorem dX8_act_25 : decode cX8_act 25 = .ok (.putfield 133, 3) := by decide +kernel
theorem dX8_act_28 : decode cX8_act 28 = .ok (.goto 37, 3) := by decide +kernel
theorem dX8_act_31 : decode cX8_act 31 = .ok (.iload_n 1, 1) := by decide +kernel
theorem dX8_act_32 : decode cX8_act 32 = .ok (.iconst 1, 1) := by decide +kernel
theorem dX8_act_33 : decode cX8_act 33 = .ok (.if_icmp .ne 27, 3) := by decide +kernel
theorem dX8_act_36 : decode cX8_act 36 = .ok (.aload_n 0, 1) := by decide +kernel
theorem dX8_act_37 : decode cX8_act 37 = .ok (.aload_n 0, 1) := by decide +kernel
theorem dX8_act_38 : decode cX8_act 38 = .ok (.getfield 133, 3) := by decide +kernel
theorem dX8_act_41 : decode cX8_act 41 = .ok (.ifCond .le 12, 3) := by decide +kernel
theorem dX8_act_44 : decode cX8_act 44 = .ok (.aload_n 0, 1) := by decide +kernel
theorem dX8_act_45 : decode cX8_act 45 = .ok (.getfield 133, 3) := by decide +kernel
theorem dX8_act_48 : decode cX8_act 48 = .ok (.iconst 1, 1) := by decide +kernel
theorem dX8_act_49 : decode cX8_act 49 = .ok (.isub, 1) := by decide +kernel
theorem dX8_act_50 : decode cX8_act 50 = .ok (.goto 4, 3) := by decide +kernel
theorem dX8_act_53 : decode cX8_act 53 = .ok (.iconst 0, 1) := by decide +kernel
theorem dX8_act_54 : decode cX8_act 54 = .ok (.putfield 133, 3) := by decide +kernel
theorem dX8_act_57 : decode cX8_act 57 = .ok (.goto 8, 3) := by decide +kernel
theorem dX8_act_60 : decode cX8_act 60 = .ok (.aload_n 0, 1) := by decide +kernel
theorem dX8_act_61 : decode cX8_act 61 = .ok (.invokevirtual 137, 3) := by decide +kernel
theorem dX8_act_64 : decode cX8_act 64 = .ok (.istore_n 2, 1) := by decide +kernel
theorem dX8_act_65 : decode cX8_act 65 = .ok (.return_, 1) := by decide +kernel
theorem dX8_comesDown_0 : decode cX8_comesDown 0 = .ok (.aload_n 0, 1) := by decide +kernel
theorem dX8_comesDown_1 : decode cX8_comesDown 1 = .ok (.getfield 130, 3) := by decide +kernel
theorem dX8_comesDown_4 : decode cX8_comesDown 4 = .ok (.istore_n 1, 1) := by decide +kernel
theorem dX8_comesDown_5 : decode cX8_comesDown 5 = .ok (.aload_n 0, 1) := by decide +kernel
theorem dX8_comesDown_6 : decode cX8_comesDown 6 = .ok (.dup, 1) := by decide +kernel
theorem dX8_comesDown_7 : decode cX8_comesDown 7 = .ok (.getfield 130, 3) := by decide +kernel
theorem dX8_comesDown_10 : decode cX8_comesDown 10 = .ok (.iconst 1, 1) := by decide +kernel
theorem dX8_comesDown_11 : decode cX8_comesDown 11 = .ok (.iadd, 1) := by decide +kernel
theorem dX8_comesDown_12 : decode cX8_comesDown 12 = .ok (.putfield 130, 3) := by decide +kernel
theorem dX8_comesDown_15 : decode cX8_comesDown 15 = .ok (.aload_n 0, 1) := by decide +kernel
theorem dX8_comesDown_16 : decode cX8_comesDown 16 = .ok (.getfield 141, 3) := by decide +kernel
theorem dX8_comesDown_19 : decode cX8_comesDown 19 = .ok (.bipush 10, 2) := by decide +kernel
theorem dX8_comesDown_21 : decode cX8_comesDown 21 = .ok (.aload_n 0, 1) := by decide +kernel
theorem dX8_comesDown_22 : decode cX8_comesDown 22 = .ok (.getfield 22, 3) := by decide +kernel
theorem dX8_comesDown_25 : decode cX8_comesDown 25 = .ok (.iload_n 1, 1) := by decide +kernel
theorem dX8_comesDown_26 : decode cX8_comesDown 26 = .ok (.iaload, 1) := by decide +kernel
theorem dX8_comesDown_27 : decode cX8_comesDown 27 = .ok (.imul, 1) := by decide +kernel
theorem dX8_comesDown_28 : decode cX8_comesDown 28 = .ok (.if_icmp .lt 239, 3) := by decide +kernel
theorem dX8_comesDown_31 : decode cX8_comesDown 31 = .ok (.aload_n 0, 1) := by decide +kernel
theorem dX8_comesDown_32 : decode cX8_comesDown 32 = .ok (.getfield 16, 3) := by decide +kernel
theorem dX8_comesDown_35 : decode cX8_comesDown 35 = .ok (.iload_n 1, 1) := by decide +kernel
theorem dX8_comesDown_36 : decode cX8_comesDown 36 = .ok (.iconst 1, 1) := by decide +kernel
theorem dX8_comesDown_37 : decode cX8_comesDown 37 = .ok (.iastore, 1) := by decide +kernel
theorem dX8_comesDown_38 : decode cX8_comesDown 38 = .ok (.aload_n 0, 1) := by decide +kernel
theorem dX8_comesDown_39 : decode cX8_comesDown 39 = .ok (.getfield 34, 3) := by decide +kernel
theorem dX8_comesDown_42 : decode cX8_comesDown 42 = .ok (.iload_n 1, 1) := by decide +kernel
theorem dX8_comesDown_43 : decode cX8_comesDown 43 = .ok (.aload_n 0, 1) := by decide +kernel
theorem dX8_comesDown_44 : decode cX8_comesDown 44 = .ok (.getfield 22, 3) := by decide +kernel
theorem dX8_comesDown_47 : decode cX8_comesDown 47 = .ok (.iload_n 1, 1) := by decide +kernel
theorem dX8_comesDown_48 : decode cX8_comesDown 48 = .ok (.iaload, 1) := by decide +kernel
theorem dX8_comesDown_49 : decode cX8_comesDown 49 = .ok (.aload_n 0, 1) := by decide +kernel
theorem dX8_comesDown_50 : decode cX8_comesDown 50 = .ok (.getfield 13, 3) := by decide +kernel
theorem dX8_comesDown_53 : decode cX8_comesDown 53 = .ok (.aload_n 0, 1) := by decide +kernel
theorem dX8_comesDown_54 : decode cX8_comesDown 54 = .ok (.getfield 28, 3) := by decide +kernel
theorem dX8_comesDown_57 : decode cX8_comesDown 57 = .ok (.iload_n 1, 1) := by decide +kernel
theorem dX8_comesDown_58 : decode cX8_comesDown 58 = .ok (.iaload, 1) := by decide +kernel
theorem dX8_comesDown_59 : decode cX8_comesDown 59 = .ok (.iaload, 1) := by decide +kernel
theorem dX8_comesDown_60 : decode cX8_comesDown 60 = .ok (.imul, 1) := by decide +kernel
theorem dX8_comesDown_61 : decode cX8_comesDown 61 = .ok (.bipush 100, 2) := by decide +kernel
theorem dX8_comesDown_63 : decode cX8_comesDown 63 = .ok (.idiv, 1) := by decide +kernel
theorem dX8_comesDown_64 : decode cX8_comesDown 64 = .ok (.iastore, 1) := by decide +kernel
theorem dX8_comesDown_65 : decode cX8_comesDown 65 = .ok (.aload_n 0, 1) := by decide +kernel
theorem dX8_comesDown_66 : decode cX8_comesDown 66 = .ok (.getfield 31, 3) := by decide +kernel
theorem dX8_comesDown_69 : decode cX8_comesDown 69 = .ok (.iload_n 1, 1) := by decide +kernel
theorem dX8_comesDown_70 : decode cX8_comesDown 70 = .ok (.iconst 4, 1) := by decide +kernel
theorem dX8_comesDown_71 : decode cX8_comesDown 71 = .ok (.aload_n 0, 1) := by decide +kernel
theorem dX8_comesDown_72 : decode cX8_comesDown 72 = .ok (.getfield 25, 3) := by decide +kernel
theorem dX8_comesDown_75 : decode cX8_comesDown 75 = .ok (.iload_n 1, 1) := by decide +kernel
theorem dX8_comesDown_76 : decode cX8_comesDown 76 = .ok (.iaload, 1) := by decide +kernel
theorem dX8_comesDown_77 : decode cX8_comesDown 77 = .ok (.imul, 1) := by decide +kernel
theorem dX8_comesDown_78 : decode cX8_comesDown 78 = .ok (.aload_n 0, 1) := by decide +kernel
theorem dX8_comesDown_79 : decode cX8_comesDown 79 = .ok (.getfield 22, 3) := by decide +kernel
theorem dX8_comesDown_82 : decode cX8_comesDown 82 = .ok (.iload_n 1, 1) := by decide +kernel
theorem dX8_comesDown_83 : decode cX8_comesDown 83 = .ok (.iaload, 1) := by decide +kernel
theorem dX8_comesDown_84 : decode cX8_comesDown 84 = .ok (.if_icmp .lt 7, 3) := by decide +kernel
theorem dX8_comesDown_87 : decode cX8_comesDown 87 = .ok (.iconst 1, 1) := by decide +kernel
theorem dX8_comesDown_88 : decode cX8_comesDown 88 = .ok (.goto 4, 3) := by decide +kernel
theorem dX8_comesDown_91 : decode cX8_comesDown 91 = .ok (.iconst 0, 1) := by decide +kernel
theorem dX8_comesDown_92 : decode cX8_comesDown 92 = .ok (.aload_n 0, 1) := by decide +kernel
theorem dX8_comesDown_93 : decode cX8_comesDown 93 = .ok (.getfield 141, 3) := by decide +kernel
theorem dX8_comesDown_96 : decode cX8_comesDown 96 = .ok (.sipush 400, 3) := by decide +kernel
theorem dX8_comesDown_99 : decode cX8_comesDown 99 = .ok (.if_icmp .lt 7, 3) := by decide +kernel
theorem dX8_comesDown_102 : decode cX8_comesDown 102 = .ok (.iconst 1, 1) := by decide +kernel
theorem dX8_comesDown_103 : decode cX8_comesDown 103 = .ok (.goto 4, 3) := by decide +kernel
theorem dX8_comesDown_106 : decode cX8_comesDown 106 = .ok (.iconst 0, 1) := by decide +kernel
theorem dX8_comesDown_107 : decode cX8_comesDown 107 = .ok (.iadd, 1) := by decide +kernel
theorem dX8_comesDown_108 : decode cX8_comesDown 108 = .ok (.aload_n 0, 1) := by decide +kernel
theorem dX8_comesDown_109 : decode cX8_comesDown 109 = .ok (.getfield 141, 3) := by decide +kernel
theorem dX8_comesDown_112 : decode cX8_comesDown 112 = .ok (.sipush 700, 3) := by decide +kernel
theorem dX8_comesDown_115 : decode cX8_comesDown 115 = .ok (.if_icmp .lt 7, 3) := by decide +kernel
theorem dX8_comesDown_118 : decode cX8_comesDown 118 = .ok (.iconst 1, 1) := by decide +kernel
theorem dX8_comesDown_119 : decode cX8_comesDown 119 = .ok (.goto 4, 3) := by decide +kernel
theorem dX8_comesDown_122 : decode cX8_comesDown 122 = .ok (.iconst 0, 1) := by decide +kernel
theorem dX8_comesDown_123 : decode cX8_comesDown 123 = .ok (.iadd, 1) := by decide +kernel
theorem dX8_comesDown_124 : decode cX8_comesDown 124 = .ok (.iastore, 1) := by decide +kernel
theorem dX8_comesDown_125 : decode cX8_comesDown 125 = .ok (.aload_n 0, 1) := by decide +kernel
theorem dX8_comesDown_126 : decode cX8_comesDown 126 = .ok (.dup, 1) := by decide +kernel
theorem dX8_comesDown_127 : decode cX8_comesDown 127 = .ok (.getfield 144, 3) := by decide +kernel
theorem dX8_comesDown_130 : decode cX8_comesDown 130 = .ok (.aload_n 0, 1) := by decide +kernel
theorem dX8_comesDown_131 : decode cX8_comesDown 131 = .ok (.getfield 34, 3) := by decide +kernel
theorem dX8_comesDown_134 : decode cX8_comesDown 134 = .ok (.iload_n 1, 1) := by decide +kernel
theorem dX8_comesDown_135 : decode cX8_comesDown 135 = .ok (.iaload, 1) := by decide +kernel
theorem dX8_comesDown_136 : decode cX8_comesDown 136 = .ok (.iadd, 1) := by decide +kernel
theorem dX8_comesDown_137 : decode cX8_comesDown 137 = .ok (.putfield 144, 3) := by decide +kernel
theorem dX8_comesDown_140 : decode cX8_comesDown 140 = .ok (.aload_n 0, 1) := by decide +kernel
theorem dX8_comesDown_141 : decode cX8_comesDown 141 = .ok (.dup, 1) := by decide +kernel
theorem dX8_comesDown_142 : decode cX8_comesDown 142 = .ok (.getfield 147, 3) := by decide +kernel
theorem dX8_comesDown_145 : decode cX8_comesDown 145 = .ok (.aload_n 0, 1) := by decide +kernel
theorem dX8_comesDown_146 : decode cX8_comesDown 146 = .ok (.getfield 34, 3) := by decide +kernel
theorem dX8_comesDown_149 : decode cX8_comesDown 149 = .ok (.iload_n 1, 1) := by decide +kernel
theorem dX8_comesDown_150 : decode cX8_comesDown 150 = .ok (.iaload, 1) := by decide +kernel
theorem dX8_comesDown_151 : decode cX8_comesDown 151 = .ok (.iadd, 1) := by decide +kernel
theorem dX8_comesDown_152 : decode cX8_comesDown 152 = .ok (.putfield 147, 3) := by decide +kernel
theorem dX8_comesDown_155 : decode cX8_comesDown 155 = .ok (.aload_n 0, 1) := by decide +kernel
theorem dX8_comesDown_156 : decode cX8_comesDown 156 = .ok (.dup, 1) := by decide +kernel
theorem dX8_comesDown_157 : decode cX8_comesDown 157 = .ok (.getfield 150, 3) := by decide +kernel
theorem dX8_comesDown_160 : decode cX8_comesDown 160 = .ok (.aload_n 0, 1) := by decide +kernel
theorem dX8_comesDown_161 : decode cX8_comesDown 161 = .ok (.getfield 22, 3) := by decide +kernel
theorem dX8_comesDown_164 : decode cX8_comesDown 164 = .ok (.iload_n 1, 1) := by decide +kernel
theorem dX8_comesDown_165 : decode cX8_comesDown 165 = .ok (.iaload, 1) := by decide +kernel
theorem dX8_comesDown_166 : decode cX8_comesDown 166 = .ok (.aload_n 0, 1) := by decide +kernel
theorem dX8_comesDown_167 : decode cX8_comesDown 167 = .ok (.getfield 34, 3) := by decide +kernel
theorem dX8_comesDown_170 : decode cX8_comesDown 170 = .ok (.iload_n 1, 1) := by decide +kernel
theorem dX8_comesDown_171 : decode cX8_comesDown 171 = .ok (.iaload, 1) := by decide +kernel
theorem dX8_comesDown_172 : decode cX8_comesDown 172 = .ok (.isub, 1) := by decide +kernel
theorem dX8_comesDown_173 : decode cX8_comesDown 173 = .ok (.aload_n 0, 1) := by decide +kernel
theorem dX8_comesDown_174 : decode cX8_comesDown 174 = .ok (.getfield 25, 3) := by decide +kernel
theorem dX8_comesDown_177 : decode cX8_comesDown 177 = .ok (.iload_n 1, 1) := by decide +kernel
theorem dX8_comesDown_178 : decode cX8_comesDown 178 = .ok (.iaload, 1) := by decide +kernel
theorem dX8_comesDown_179 : decode cX8_comesDown 179 = .ok (.iadd, 1) := by decide +kernel
theorem dX8_comesDown_180 : decode cX8_comesDown 180 = .ok (.iadd, 1) := by decide +kernel
theorem dX8_comesDown_181 : decode cX8_comesDown 181 = .ok (.putfield 150, 3) := by decide +kernel
theorem dX8_comesDown_184 : decode cX8_comesDown 184 = .ok (.aload_n 0, 1) := by decide +kernel
theorem dX8_comesDown_185 : decode cX8_comesDown 185 = .ok (.dup, 1) := by decide +kernel
theorem dX8_comesDown_186 : decode cX8_comesDown 186 = .ok (.getfield 141, 3) := by decide +kernel
theorem dX8_comesDown_189 : decode cX8_comesDown 189 = .ok (.iconst 5, 1) := by decide +kernel
theorem dX8_comesDown_190 : decode cX8_comesDown 190 = .ok (.aload_n 0, 1) := by decide +kernel
theorem dX8_comesDown_191 : decode cX8_comesDown 191 = .ok (.getfield 22, 3) := by decide +kernel
theorem dX8_comesDown_194 : decode cX8_comesDown 194 = .ok (.iload_n 1, 1) := by decide +kernel
theorem dX8_comesDown_195 : decode cX8_comesDown 195 = .ok (.iaload, 1) := by decide +kernel
theorem dX8_comesDown_196 : decode cX8_comesDown 196 = .ok (.imul, 1) := by decide +kernel
theorem dX8_comesDown_197 : decode cX8_comesDown 197 = .ok (.isub, 1) := by decide +kernel
theorem dX8_comesDown_198 : decode cX8_comesDown 198 = .ok (.putfield 141, 3) := by decide +kernel
theorem dX8_comesDown_201 : decode cX8_comesDown 201 = .ok (.aload_n 0, 1) := by decide +kernel
theorem dX8_comesDown_202 : decode cX8_comesDown 202 = .ok (.aload_n 0, 1) := by decide +kernel
theorem dX8_comesDown_203 : decode cX8_comesDown 203 = .ok (.getfield 44, 3) := by decide +kernel
theorem dX8_comesDown_206 : decode cX8_comesDown 206 = .ok (.iconst (-1), 1) := by decide +kernel
theorem dX8_comesDown_207 : decode cX8_comesDown 207 = .ok (.if_icmp .eq 16, 3) := by decide +kernel
theorem dX8_comesDown_210 : decode cX8_comesDown 210 = .ok (.aload_n 0, 1) := by decide +kernel
theorem dX8_comesDown_211 : decode cX8_comesDown 211 = .ok (.getfield 31, 3) := by decide +kernel
theorem dX8_comesDown_214 : decode cX8_comesDown 214 = .ok (.iload_n 1, 1) := by decide +kernel
theorem dX8_comesDown_215 : decode cX8_comesDown 215 = .ok (.iaload, 1) := by decide +kernel
theorem dX8_comesDown_216 : decode cX8_comesDown 216 = .ok (.aload_n 0, 1) := by decide +kernel
theorem dX8_comesDown_217 : decode cX8_comesDown 217 = .ok (.getfield 44, 3) := by decide +kernel
theorem dX8_comesDown_220 : decode cX8_comesDown 220 = .ok (.if_icmp .ge 12, 3) := by decide +kernel
theorem dX8_comesDown_223 : decode cX8_comesDown 223 = .ok (.aload_n 0, 1) := by decide +kernel
theorem dX8_comesDown_224 : decode cX8_comesDown 224 = .ok (.getfield 31, 3) := by decide +kernel
theorem dX8_comesDown_227 : decode cX8_comesDown 227 = .ok (.iload_n 1, 1) := by decide +kernel
theorem dX8_comesDown_228 : decode cX8_comesDown 228 = .ok (.iaload, 1) := by decide +kernel
theorem dX8_comesDown_229 : decode cX8_comesDown 229 = .ok (.goto 7, 3) := by decide +kernel
theorem dX8_comesDown_232 : decode cX8_comesDown 232 = .ok (.aload_n 0, 1) := by decide +kernel
theorem dX8_comesDown_233 : decode cX8_comesDown 233 = .ok (.getfield 44, 3) := by decide +kernel
theorem dX8_comesDown_236 : decode cX8_comesDown 236 = .ok (.putfield 44, 3) := by decide +kernel
theorem dX8_comesDown_239 : decode cX8_comesDown 239 = .ok (.aload_n 0, 1) := by decide +kernel
theorem dX8_comesDown_240 : decode cX8_comesDown 240 = .ok (.aload_n 0, 1) := by decide +kernel
theorem dX8_comesDown_241 : decode cX8_comesDown 241 = .ok (.getfield 47, 3) := by decide +kernel
theorem dX8_comesDown_244 : decode cX8_comesDown 244 = .ok (.iconst (-1), 1) := by decide +kernel
theorem dX8_comesDown_245 : decode cX8_comesDown 245 = .ok (.if_icmp .ne 7, 3) := by decide +kernel
theorem dX8_comesDown_248 : decode cX8_comesDown 248 = .ok (.iload_n 1, 1) := by decide +kernel
theorem dX8_comesDown_249 : decode cX8_comesDown 249 = .ok (.goto 7, 3) := by decide +kernel
theorem dX8_comesDown_252 : decode cX8_comesDown 252 = .ok (.aload_n 0, 1) := by decide +kernel
theorem dX8_comesDown_253 : decode cX8_comesDown 253 = .ok (.getfield 47, 3) := by decide +kernel
theorem dX8_comesDown_256 : decode cX8_comesDown 256 = .ok (.putfield 47, 3) := by decide +kernel
theorem dX8_comesDown_259 : decode cX8_comesDown 259 = .ok (.aload_n 0, 1) := by decide +kernel
theorem dX8_comesDown_260 : decode cX8_comesDown 260 = .ok (.iload_n 1, 1) := by decide +kernel
theorem dX8_comesDown_261 : decode cX8_comesDown 261 = .ok (.putfield 50, 3) := by decide +kernel
theorem dX8_comesDown_264 : decode cX8_comesDown 264 = .ok (.goto 42, 3) := by decide +kernel
theorem dX8_comesDown_267 : decode cX8_comesDown 267 = .ok (.aload_n 0, 1) := by decide +kernel
theorem dX8_comesDown_268 : decode cX8_comesDown 268 = .ok (.getfield 16, 3) := by decide +kernel
theorem dX8_comesDown_271 : decode cX8_comesDown 271 = .ok (.iload_n 1, 1) := by decide +kernel
theorem dX8_comesDown_272 : decode cX8_comesDown 272 = .ok (.iconst 2, 1) := by decide +kernel
theorem dX8_comesDown_273 : decode cX8_comesDown 273 = .ok (.iastore, 1) := by decide +kernel
theorem dX8_comesDown_274 : decode cX8_comesDown 274 = .ok (.aload_n 0, 1) := by decide +kernel
theorem dX8_comesDown_275 : decode cX8_comesDown 275 = .ok (.dup, 1) := by decide +kernel
theorem dX8_comesDown_276 : decode cX8_comesDown 276 = .ok (.getfield 150, 3) := by decide +kernel
theorem dX8_comesDown_279 : decode cX8_comesDown 279 = .ok (.aload_n 0, 1) := by decide +kernel
theorem dX8_comesDown_280 : decode cX8_comesDown 280 = .ok (.getfield 22, 3) := by decide +kernel
theorem dX8_comesDown_283 : decode cX8_comesDown 283 = .ok (.iload_n 1, 1) := by decide +kernel
theorem dX8_comesDown_284 : decode cX8_comesDown 284 = .ok (.iaload, 1) := by decide +kernel
theorem dX8_comesDown_285 : decode cX8_comesDown 285 = .ok (.aload_n 0, 1) := by decide +kernel
theorem dX8_comesDown_286 : decode cX8_comesDown 286 = .ok (.getfield 25, 3) := by decide +kernel
theorem dX8_comesDown_289 : decode cX8_comesDown 289 = .ok (.iload_n 1, 1) := by decide +kernel
theorem dX8_comesDown_290 : decode cX8_comesDown 290 = .ok (.iaload, 1) := by decide +kernel
theorem dX8_comesDown_291 : decode cX8_comesDown 291 = .ok (.iadd, 1) := by decide +kernel
theorem dX8_comesDown_292 : decode cX8_comesDown 292 = .ok (.iadd, 1) := by decide +kernel
theorem dX8_comesDown_293 : decode cX8_comesDown 293 = .ok (.putfield 150, 3) := by decide +kernel
theorem dX8_comesDown_296 : decode cX8_comesDown 296 = .ok (.aload_n 0, 1) := by decide +kernel
theorem dX8_comesDown_297 : decode cX8_comesDown 297 = .ok (.dup, 1) := by decide +kernel
theorem dX8_comesDown_298 : decode cX8_comesDown 298 = .ok (.getfield 153, 3) := by decide +kernel
theorem dX8_comesDown_301 : decode cX8_comesDown 301 = .ok (.iconst 1, 1) := by decide +kernel
theorem dX8_comesDown_302 : decode cX8_comesDown 302 = .ok (.iadd, 1) := by decide +kernel
theorem dX8_comesDown_303 : decode cX8_comesDown 303 = .ok (.putfield 153, 3) := by decide +kernel
theorem dX8_comesDown_306 : decode cX8_comesDown 306 = .ok (.return_, 1) := by decide +kernel
theorem dX8_oneTick_0 : decode cX8_oneTick 0 = .ok (.iconst 0, 1) := by decide +kernel
theorem dX8_oneTick_1 : decode cX8_oneTick 1 = .ok (.istore_n 1, 1) := by decide +kernel
theorem dX8_oneTick_2 : decode cX8_oneTick 2 = .ok (.iload_n 1, 1) := by decide +kernel
theorem dX8_oneTick_3 : decode cX8_oneTick 3 = .ok (.aload_n 0, 1) := by decide +kernel
theorem dX8_oneTick_4 : decode cX8_oneTick 4 = .ok (.getfield 156, 3) := by decide +kernel
theorem dX8_oneTick_7 : decode cX8_oneTick 7 = .ok (.if_icmp .ge 68, 3) := by decide +kernel
theorem dX8_oneTick_10 : decode cX8_oneTick 10 = .ok (.aload_n 0, 1) := by decide +kernel
theorem dX8_oneTick_11 : decode cX8_oneTick 11 = .ok (.getfield 71, 3) := by decide +kernel
theorem dX8_oneTick_14 : decode cX8_oneTick 14 = .ok (.aload_n 0, 1) := by decide +kernel
theorem dX8_oneTick_15 : decode cX8_oneTick 15 = .ok (.getfield 77, 3) := by decide +kernel
theorem dX8_oneTick_18 : decode cX8_oneTick 18 = .ok (.iload_n 1, 1) := by decide +kernel
theorem dX8_oneTick_19 : decode cX8_oneTick 19 = .ok (.iaload, 1) := by decide +kernel
theorem dX8_oneTick_20 : decode cX8_oneTick 20 = .ok (.iaload, 1) := by decide +kernel
theorem dX8_oneTick_21 : decode cX8_oneTick 21 = .ok (.istore_n 2, 1) := by decide +kernel
theorem dX8_oneTick_22 : decode cX8_oneTick 22 = .ok (.iload_n 2, 1) := by decide +kernel
theorem dX8_oneTick_23 : decode cX8_oneTick 23 = .ok (.iconst (-1), 1) := by decide +kernel
theorem dX8_oneTick_24 : decode cX8_oneTick 24 = .ok (.if_icmp .eq 45, 3) := by decide +kernel
theorem dX8_oneTick_27 : decode cX8_oneTick 27 = .ok (.aload_n 0, 1) := by decide +kernel
theorem dX8_oneTick_28 : decode cX8_oneTick 28 = .ok (.getfield 80, 3) := by decide +kernel
theorem dX8_oneTick_31 : decode cX8_oneTick 31 = .ok (.iload_n 1, 1) := by decide +kernel
theorem dX8_oneTick_32 : decode cX8_oneTick 32 = .ok (.baload, 1) := by decide +kernel
theorem dX8_oneTick_33 : decode cX8_oneTick 33 = .ok (.ifCond .eq 16, 3) := by decide +kernel
theorem dX8_oneTick_36 : decode cX8_oneTick 36 = .ok (.iload_n 2, 1) := by decide +kernel
theorem dX8_oneTick_37 : decode cX8_oneTick 37 = .ok (.aload_n 0, 1) := by decide +kernel
theorem dX8_oneTick_38 : decode cX8_oneTick 38 = .ok (.getfield 84, 3) := by decide +kernel
theorem dX8_oneTick_41 : decode cX8_oneTick 41 = .ok (.iload_n 1, 1) := by decide +kernel
theorem dX8_oneTick_42 : decode cX8_oneTick 42 = .ok (.iaload, 1) := by decide +kernel
theorem dX8_oneTick_43 : decode cX8_oneTick 43 = .ok (.if_icmp .le 26, 3) := by decide +kernel
theorem dX8_oneTick_46 : decode cX8_oneTick 46 = .ok (.goto 13, 3) := by decide +kernel
theorem dX8_oneTick_49 : decode cX8_oneTick 49 = .ok (.iload_n 2, 1) := by decide +kernel
theorem dX8_oneTick_50 : decode cX8_oneTick 50 = .ok (.aload_n 0, 1) := by decide +kernel
theorem dX8_oneTick_51 : decode cX8_oneTick 51 = .ok (.getfield 84, 3) := by decide +kernel
theorem dX8_oneTick_54 : decode cX8_oneTick 54 = .ok (.iload_n 1, 1) := by decide +kernel
theorem dX8_oneTick_55 : decode cX8_oneTick 55 = .ok (.iaload, 1) := by decide +kernel
theorem dX8_oneTick_56 : decode cX8_oneTick 56 = .ok (.if_icmp .ge 13, 3) := by decide +kernel
theorem dX8_oneTick_59 : decode cX8_oneTick 59 = .ok (.aload_n 0, 1) := by decide +kernel
theorem dX8_oneTick_60 : decode cX8_oneTick 60 = .ok (.aload_n 0, 1) := by decide +kernel
theorem dX8_oneTick_61 : decode cX8_oneTick 61 = .ok (.getfield 87, 3) := by decide +kernel
theorem dX8_oneTick_64 : decode cX8_oneTick 64 = .ok (.iload_n 1, 1) := by decide +kernel
theorem dX8_oneTick_65 : decode cX8_oneTick 65 = .ok (.iaload, 1) := by decide +kernel
theorem dX8_oneTick_66 : decode cX8_oneTick 66 = .ok (.invokevirtual 159, 3) := by decide +kernel
theorem dX8_oneTick_69 : decode cX8_oneTick 69 = .ok (.iinc 1 1, 3) := by decide +kernel
theorem dX8_oneTick_72 : decode cX8_oneTick 72 = .ok (.goto (-70), 3) := by decide +kernel
theorem dX8_oneTick_75 : decode cX8_oneTick 75 = .ok (.aload_n 0, 1) := by decide +kernel
theorem dX8_oneTick_76 : decode cX8_oneTick 76 = .ok (.getfield 150, 3) := by decide +kernel
theorem dX8_oneTick_79 : decode cX8_oneTick 79 = .ok (.istore_n 1, 1) := by decide +kernel
theorem dX8_oneTick_80 : decode cX8_oneTick 80 = .ok (.aload_n 0, 1) := by decide +kernel
theorem dX8_oneTick_81 : decode cX8_oneTick 81 = .ok (.getfield 133, 3) := by decide +kernel
theorem dX8_oneTick_84 : decode cX8_oneTick 84 = .ok (.istore_n 2, 1) := by decide +kernel
theorem dX8_oneTick_85 : decode cX8_oneTick 85 = .ok (.aload_n 0, 1) := by decide +kernel
theorem dX8_oneTick_86 : decode cX8_oneTick 86 = .ok (.getfield 130, 3) := by decide +kernel
theorem dX8_oneTick_89 : decode cX8_oneTick 89 = .ok (.istore_n 3, 1) := by decide +kernel
theorem dX8_oneTick_90 : decode cX8_oneTick 90 = .ok (.iload_n 3, 1) := by decide +kernel
theorem dX8_oneTick_91 : decode cX8_oneTick 91 = .ok (.aload_n 0, 1) := by decide +kernel
theorem dX8_oneTick_92 : decode cX8_oneTick 92 = .ok (.getfield 127, 3) := by decide +kernel
theorem dX8_oneTick_95 : decode cX8_oneTick 95 = .ok (.if_icmp .ge 51, 3) := by decide +kernel
theorem dX8_oneTick_98 : decode cX8_oneTick 98 = .ok (.iload_n 2, 1) := by decide +kernel
theorem dX8_oneTick_99 : decode cX8_oneTick 99 = .ok (.ifCond .le 47, 3) := by decide +kernel
theorem dX8_oneTick_102 : decode cX8_oneTick 102 = .ok (.aload_n 0, 1) := by decide +kernel
theorem dX8_oneTick_103 : decode cX8_oneTick 103 = .ok (.getfield 19, 3) := by decide +kernel
theorem dX8_oneTick_106 : decode cX8_oneTick 106 = .ok (.iload_n 3, 1) := by decide +kernel
theorem dX8_oneTick_107 : decode cX8_oneTick 107 = .ok (.iaload, 1) := by decide +kernel
theorem dX8_oneTick_108 : decode cX8_oneTick 108 = .ok (.iload_n 2, 1) := by decide +kernel
theorem dX8_oneTick_109 : decode cX8_oneTick 109 = .ok (.if_icmp .ge 12, 3) := by decide +kernel
theorem dX8_oneTick_112 : decode cX8_oneTick 112 = .ok (.aload_n 0, 1) := by decide +kernel
theorem dX8_oneTick_113 : decode cX8_oneTick 113 = .ok (.getfield 19, 3) := by decide +kernel
theorem dX8_oneTick_116 : decode cX8_oneTick 116 = .ok (.iload_n 3, 1) := by decide +kernel
theorem dX8_oneTick_117 : decode cX8_oneTick 117 = .ok (.iaload, 1) := by decide +kernel
theorem dX8_oneTick_118 : decode cX8_oneTick 118 = .ok (.goto 4, 3) := by decide +kernel
theorem dX8_oneTick_121 : decode cX8_oneTick 121 = .ok (.iload_n 2, 1) := by decide +kernel
theorem dX8_oneTick_122 : decode cX8_oneTick 122 = .ok (.istore 4, 2) := by decide +kernel
theorem dX8_oneTick_124 : decode cX8_oneTick 124 = .ok (.aload_n 0, 1) := by decide +kernel
theorem dX8_oneTick_125 : decode cX8_oneTick 125 = .ok (.getfield 19, 3) := by decide +kernel
theorem dX8_oneTick_128 : decode cX8_oneTick 128 = .ok (.iload_n 3, 1) := by decide +kernel
theorem dX8_oneTick_129 : decode cX8_oneTick 129 = .ok (.dup2, 1) := by decide +kernel
theorem dX8_oneTick_130 : decode cX8_oneTick 130 = .ok (.iaload, 1) := by decide +kernel
theorem dX8_oneTick_131 : decode cX8_oneTick 131 = .ok (.iload 4, 2) := by decide +kernel
theorem dX8_oneTick_133 : decode cX8_oneTick 133 = .ok (.isub, 1) := by decide +kernel
theorem dX8_oneTick_134 : decode cX8_oneTick 134 = .ok (.iastore, 1) := by decide +kernel
theorem dX8_oneTick_135 : decode cX8_oneTick 135 = .ok (.iload_n 2, 1) := by decide +kernel
theorem dX8_oneTick_136 : decode cX8_oneTick 136 = .ok (.iload 4, 2) := by decide +kernel
theorem dX8_oneTick_138 : decode cX8_oneTick 138 = .ok (.isub, 1) := by decide +kernel
theorem dX8_oneTick_139 : decode cX8_oneTick 139 = .ok (.istore_n 2, 1) := by decide +kernel
theorem dX8_oneTick_140 : decode cX8_oneTick 140 = .ok (.iinc 3 1, 3) := by decide +kernel
theorem dX8_oneTick_143 : decode cX8_oneTick 143 = .ok (.goto (-53), 3) := by decide +kernel
theorem dX8_oneTick_146 : decode cX8_oneTick 146 = .ok (.aload_n 0, 1) := by decide +kernel
theorem dX8_oneTick_147 : decode cX8_oneTick 147 = .ok (.getfield 133, 3) := by decide +kernel
theorem dX8_oneTick_150 : decode cX8_oneTick 150 = .ok (.iload_n 2, 1) := by decide +kernel
theorem dX8_oneTick_151 : decode cX8_oneTick 151 = .ok (.isub, 1) := by decide +kernel
theorem dX8_oneTick_152 : decode cX8_oneTick 152 = .ok (.istore_n 3, 1) := by decide +kernel
theorem dX8_oneTick_153 : decode cX8_oneTick 153 = .ok (.aload_n 0, 1) := by decide +kernel
theorem dX8_oneTick_154 : decode cX8_oneTick 154 = .ok (.dup, 1) := by decide +kernel
theorem dX8_oneTick_155 : decode cX8_oneTick 155 = .ok (.getfield 163, 3) := by decide +kernel
theorem dX8_oneTick_158 : decode cX8_oneTick 158 = .ok (.iload_n 3, 1) := by decide +kernel
theorem dX8_oneTick_159 : decode cX8_oneTick 159 = .ok (.iadd, 1) := by decide +kernel
theorem dX8_oneTick_160 : decode cX8_oneTick 160 = .ok (.putfield 163, 3) := by decide +kernel
theorem dX8_oneTick_163 : decode cX8_oneTick 163 = .ok (.aload_n 0, 1) := by decide +kernel
theorem dX8_oneTick_164 : decode cX8_oneTick 164 = .ok (.getfield 130, 3) := by decide +kernel
theorem dX8_oneTick_167 : decode cX8_oneTick 167 = .ok (.aload_n 0, 1) := by decide +kernel
theorem dX8_oneTick_168 : decode cX8_oneTick 168 = .ok (.getfield 127, 3) := by decide +kernel
theorem dX8_oneTick_171 : decode cX8_oneTick 171 = .ok (.if_icmp .ge 22, 3) := by decide +kernel
theorem dX8_oneTick_174 : decode cX8_oneTick 174 = .ok (.aload_n 0, 1) := by decide +kernel
theorem dX8_oneTick_175 : decode cX8_oneTick 175 = .ok (.getfield 19, 3) := by decide +kernel
theorem dX8_oneTick_178 : decode cX8_oneTick 178 = .ok (.aload_n 0, 1) := by decide +kernel
theorem dX8_oneTick_179 : decode cX8_oneTick 179 = .ok (.getfield 130, 3) := by decide +kernel
theorem dX8_oneTick_182 : decode cX8_oneTick 182 = .ok (.iaload, 1) := by decide +kernel
theorem dX8_oneTick_183 : decode cX8_oneTick 183 = .ok (.ifCond .ne 10, 3) := by decide +kernel
theorem dX8_oneTick_186 : decode cX8_oneTick 186 = .ok (.aload_n 0, 1) := by decide +kernel
theorem dX8_oneTick_187 : decode cX8_oneTick 187 = .ok (.invokevirtual 166, 3) := by decide +kernel
theorem dX8_oneTick_190 : decode cX8_oneTick 190 = .ok (.goto (-27), 3) := by decide +kernel
theorem dX8_oneTick_193 : decode cX8_oneTick 193 = .ok (.aload_n 0, 1) := by decide +kernel
theorem dX8_oneTick_194 : decode cX8_oneTick 194 = .ok (.aload_n 0, 1) := by decide +kernel
theorem dX8_oneTick_195 : decode cX8_oneTick 195 = .ok (.getfield 141, 3) := by decide +kernel
theorem dX8_oneTick_198 : decode cX8_oneTick 198 = .ok (.bipush 8, 2) := by decide +kernel
theorem dX8_oneTick_200 : decode cX8_oneTick 200 = .ok (.iload_n 3, 1) := by decide +kernel
theorem dX8_oneTick_201 : decode cX8_oneTick 201 = .ok (.imul, 1) := by decide +kernel
theorem dX8_oneTick_202 : decode cX8_oneTick 202 = .ok (.iadd, 1) := by decide +kernel
theorem dX8_oneTick_203 : decode cX8_oneTick 203 = .ok (.bipush 40, 2) := by decide +kernel
theorem dX8_oneTick_205 : decode cX8_oneTick 205 = .ok (.isub, 1) := by decide +kernel
theorem dX8_oneTick_206 : decode cX8_oneTick 206 = .ok (.putfield 141, 3) := by decide +kernel
theorem dX8_oneTick_209 : decode cX8_oneTick 209 = .ok (.aload_n 0, 1) := by decide +kernel
theorem dX8_oneTick_210 : decode cX8_oneTick 210 = .ok (.aload_n 0, 1) := by decide +kernel
theorem dX8_oneTick_211 : decode cX8_oneTick 211 = .ok (.getfield 141, 3) := by decide +kernel
theorem dX8_oneTick_214 : decode cX8_oneTick 214 = .ok (.ifCond .ge 7, 3) := by decide +kernel
theorem dX8_oneTick_217 : decode cX8_oneTick 217 = .ok (.iconst 0, 1) := by decide +kernel
theorem dX8_oneTick_218 : decode cX8_oneTick 218 = .ok (.goto 23, 3) := by decide +kernel
theorem dX8_oneTick_221 : decode cX8_oneTick 221 = .ok (.aload_n 0, 1) := by decide +kernel
theorem dX8_oneTick_222 : decode cX8_oneTick 222 = .ok (.getfield 141, 3) := by decide +kernel
theorem dX8_oneTick_225 : decode cX8_oneTick 225 = .ok (.sipush 1000, 3) := by decide +kernel
theorem dX8_oneTick_228 : decode cX8_oneTick 228 = .ok (.if_icmp .le 9, 3) := by decide +kernel
theorem dX8_oneTick_231 : decode cX8_oneTick 231 = .ok (.sipush 1000, 3) := by decide +kernel
theorem dX8_oneTick_234 : decode cX8_oneTick 234 = .ok (.goto 7, 3) := by decide +kernel
theorem dX8_oneTick_237 : decode cX8_oneTick 237 = .ok (.aload_n 0, 1) := by decide +kernel
theorem dX8_oneTick_238 : decode cX8_oneTick 238 = .ok (.getfield 141, 3) := by decide +kernel
theorem dX8_oneTick_241 : decode cX8_oneTick 241 = .ok (.putfield 141, 3) := by decide +kernel
theorem dX8_oneTick_244 : decode cX8_oneTick 244 = .ok (.aload_n 0, 1) := by decide +kernel
theorem dX8_oneTick_245 : decode cX8_oneTick 245 = .ok (.getfield 144, 3) := by decide +kernel
theorem dX8_oneTick_248 : decode cX8_oneTick 248 = .ok (.aload_n 0, 1) := by decide +kernel
theorem dX8_oneTick_249 : decode cX8_oneTick 249 = .ok (.getfield 37, 3) := by decide +kernel
theorem dX8_oneTick_252 : decode cX8_oneTick 252 = .ok (.if_icmp .le 47, 3) := by decide +kernel
theorem dX8_oneTick_255 : decode cX8_oneTick 255 = .ok (.aload_n 0, 1) := by decide +kernel
theorem dX8_oneTick_256 : decode cX8_oneTick 256 = .ok (.dup, 1) := by decide +kernel
theorem dX8_oneTick_257 : decode cX8_oneTick 257 = .ok (.getfield 169, 3) := by decide +kernel
theorem dX8_oneTick_260 : decode cX8_oneTick 260 = .ok (.aload_n 0, 1) := by decide +kernel
theorem dX8_oneTick_261 : decode cX8_oneTick 261 = .ok (.getfield 144, 3) := by decide +kernel
theorem dX8_oneTick_264 : decode cX8_oneTick 264 = .ok (.aload_n 0, 1) := by decide +kernel
theorem dX8_oneTick_265 : decode cX8_oneTick 265 = .ok (.getfield 37, 3) := by decide +kernel
theorem dX8_oneTick_268 : decode cX8_oneTick 268 = .ok (.isub, 1) := by decide +kernel
theorem dX8_oneTick_269 : decode cX8_oneTick 269 = .ok (.iadd, 1) := by decide +kernel
theorem dX8_oneTick_270 : decode cX8_oneTick 270 = .ok (.putfield 169, 3) := by decide +kernel
theorem dX8_oneTick_273 : decode cX8_oneTick 273 = .ok (.aload_n 0, 1) := by decide +kernel
theorem dX8_oneTick_274 : decode cX8_oneTick 274 = .ok (.dup, 1) := by decide +kernel
theorem dX8_oneTick_275 : decode cX8_oneTick 275 = .ok (.getfield 150, 3) := by decide +kernel
theorem dX8_oneTick_278 : decode cX8_oneTick 278 = .ok (.aload_n 0, 1) := by decide +kernel
theorem dX8_oneTick_279 : decode cX8_oneTick 279 = .ok (.getfield 144, 3) := by decide +kernel
theorem dX8_oneTick_282 : decode cX8_oneTick 282 = .ok (.aload_n 0, 1) := by decide +kernel
theorem dX8_oneTick_283 : decode cX8_oneTick 283 = .ok (.getfield 37, 3) := by decide +kernel
theorem dX8_oneTick_286 : decode cX8_oneTick 286 = .ok (.isub, 1) := by decide +kernel
theorem dX8_oneTick_287 : decode cX8_oneTick 287 = .ok (.iadd, 1) := by decide +kernel
theorem dX8_oneTick_288 : decode cX8_oneTick 288 = .ok (.putfield 150, 3) := by decide +kernel
theorem dX8_oneTick_291 : decode cX8_oneTick 291 = .ok (.aload_n 0, 1) := by decide +kernel
theorem dX8_oneTick_292 : decode cX8_oneTick 292 = .ok (.aload_n 0, 1) := by decide +kernel
theorem dX8_oneTick_293 : decode cX8_oneTick 293 = .ok (.getfield 37, 3) := by decide +kernel
theorem dX8_oneTick_296 : decode cX8_oneTick 296 = .ok (.putfield 144, 3) := by decide +kernel
theorem dX8_oneTick_299 : decode cX8_oneTick 299 = .ok (.aload_n 0, 1) := by decide +kernel
theorem dX8_oneTick_300 : decode cX8_oneTick 300 = .ok (.dup, 1) := by decide +kernel
theorem dX8_oneTick_301 : decode cX8_oneTick 301 = .ok (.getfield 172, 3) := by decide +kernel
theorem dX8_oneTick_304 : decode cX8_oneTick 304 = .ok (.aload_n 0, 1) := by decide +kernel
theorem dX8_oneTick_305 : decode cX8_oneTick 305 = .ok (.getfield 141, 3) := by decide +kernel
theorem dX8_oneTick_308 : decode cX8_oneTick 308 = .ok (.bipush 100, 2) := by decide +kernel
theorem dX8_oneTick_310 : decode cX8_oneTick 310 = .ok (.idiv, 1) := by decide +kernel
theorem dX8_oneTick_311 : decode cX8_oneTick 311 = .ok (.iadd, 1) := by decide +kernel
theorem dX8_oneTick_312 : decode cX8_oneTick 312 = .ok (.putfield 172, 3) := by decide +kernel
theorem dX8_oneTick_315 : decode cX8_oneTick 315 = .ok (.aload_n 0, 1) := by decide +kernel
theorem dX8_oneTick_316 : decode cX8_oneTick 316 = .ok (.aload_n 0, 1) := by decide +kernel
theorem dX8_oneTick_317 : decode cX8_oneTick 317 = .ok (.getfield 172, 3) := by decide +kernel
theorem dX8_oneTick_320 : decode cX8_oneTick 320 = .ok (.aload_n 0, 1) := by decide +kernel
theorem dX8_oneTick_321 : decode cX8_oneTick 321 = .ok (.getfield 41, 3) := by decide +kernel
theorem dX8_oneTick_324 : decode cX8_oneTick 324 = .ok (.if_icmp .lt 7, 3) := by decide +kernel
theorem dX8_oneTick_327 : decode cX8_oneTick 327 = .ok (.iconst 1, 1) := by decide +kernel
theorem dX8_oneTick_328 : decode cX8_oneTick 328 = .ok (.goto 4, 3) := by decide +kernel
theorem dX8_oneTick_331 : decode cX8_oneTick 331 = .ok (.iconst 0, 1) := by decide +kernel
theorem dX8_oneTick_332 : decode cX8_oneTick 332 = .ok (.putfield 175, 3) := by decide +kernel
theorem dX8_oneTick_335 : decode cX8_oneTick 335 = .ok (.aload_n 0, 1) := by decide +kernel
theorem dX8_oneTick_336 : decode cX8_oneTick 336 = .ok (.dup, 1) := by decide +kernel
theorem dX8_oneTick_337 : decode cX8_oneTick 337 = .ok (.getfield 179, 3) := by decide +kernel
theorem dX8_oneTick_340 : decode cX8_oneTick 340 = .ok (.iconst 1, 1) := by decide +kernel
theorem dX8_oneTick_341 : decode cX8_oneTick 341 = .ok (.iadd, 1) := by decide +kernel
theorem dX8_oneTick_342 : decode cX8_oneTick 342 = .ok (.putfield 179, 3) := by decide +kernel
theorem dX8_oneTick_345 : decode cX8_oneTick 345 = .ok (.aload_n 0, 1) := by decide +kernel
theorem dX8_oneTick_346 : decode cX8_oneTick 346 = .ok (.iconst 0, 1) := by decide +kernel
theorem dX8_oneTick_347 : decode cX8_oneTick 347 = .ok (.aload_n 0, 1) := by decide +kernel
theorem dX8_oneTick_348 : decode cX8_oneTick 348 = .ok (.getfield 141, 3) := by decide +kernel
theorem dX8_oneTick_351 : decode cX8_oneTick 351 = .ok (.bipush 10, 2) := by decide +kernel
theorem dX8_oneTick_353 : decode cX8_oneTick 353 = .ok (.idiv, 1) := by decide +kernel
theorem dX8_oneTick_354 : decode cX8_oneTick 354 = .ok (.invokevirtual 182, 3) := by decide +kernel
theorem dX8_oneTick_357 : decode cX8_oneTick 357 = .ok (.aload_n 0, 1) := by decide +kernel
theorem dX8_oneTick_358 : decode cX8_oneTick 358 = .ok (.iconst 1, 1) := by decide +kernel
theorem dX8_oneTick_359 : decode cX8_oneTick 359 = .ok (.aload_n 0, 1) := by decide +kernel
theorem dX8_oneTick_360 : decode cX8_oneTick 360 = .ok (.getfield 150, 3) := by decide +kernel
theorem dX8_oneTick_363 : decode cX8_oneTick 363 = .ok (.iload_n 1, 1) := by decide +kernel
theorem dX8_oneTick_364 : decode cX8_oneTick 364 = .ok (.isub, 1) := by decide +kernel
theorem dX8_oneTick_365 : decode cX8_oneTick 365 = .ok (.invokevirtual 182, 3) := by decide +kernel
theorem dX8_oneTick_368 : decode cX8_oneTick 368 = .ok (.aload_n 0, 1) := by decide +kernel
theorem dX8_oneTick_369 : decode cX8_oneTick 369 = .ok (.iconst 2, 1) := by decide +kernel
theorem dX8_oneTick_370 : decode cX8_oneTick 370 = .ok (.aload_n 0, 1) := by decide +kernel
theorem dX8_oneTick_371 : decode cX8_oneTick 371 = .ok (.getfield 144, 3) := by decide +kernel
theorem dX8_oneTick_374 : decode cX8_oneTick 374 = .ok (.invokevirtual 182, 3) := by decide +kernel
theorem dX8_oneTick_377 : decode cX8_oneTick 377 = .ok (.return_, 1) := by decide +kernel
theorem dX8_see_0 : decode cX8_see 0 = .ok (.aload_n 0, 1) := by decide +kernel
theorem dX8_see_1 : decode cX8_see 1 = .ok (.getfield 71, 3) := by decide +kernel
theorem dX8_see_4 : decode cX8_see 4 = .ok (.iload_n 1, 1) := by decide +kernel
theorem dX8_see_5 : decode cX8_see 5 = .ok (.aload_n 0, 1) := by decide +kernel
theorem dX8_see_6 : decode cX8_see 6 = .ok (.getfield 74, 3) := by decide +kernel
theorem dX8_see_9 : decode cX8_see 9 = .ok (.iload_n 1, 1) := by decide +kernel
theorem dX8_see_10 : decode cX8_see 10 = .ok (.iaload, 1) := by decide +kernel
theorem dX8_see_11 : decode cX8_see 11 = .ok (.ifCond .le 7, 3) := by decide +kernel
theorem dX8_see_14 : decode cX8_see 14 = .ok (.iconst (-1), 1) := by decide +kernel
theorem dX8_see_15 : decode cX8_see 15 = .ok (.goto 4, 3) := by decide +kernel
theorem dX8_see_18 : decode cX8_see 18 = .ok (.iload_n 2, 1) := by decide +kernel
theorem dX8_see_19 : decode cX8_see 19 = .ok (.iastore, 1) := by decide +kernel
theorem dX8_see_20 : decode cX8_see 20 = .ok (.aload_n 0, 1) := by decide +kernel
theorem dX8_see_21 : decode cX8_see 21 = .ok (.getfield 74, 3) := by decide +kernel
theorem dX8_see_24 : decode cX8_see 24 = .ok (.iload_n 1, 1) := by decide +kernel
theorem dX8_see_25 : decode cX8_see 25 = .ok (.dup2, 1) := by decide +kernel
theorem dX8_see_26 : decode cX8_see 26 = .ok (.iaload, 1) := by decide +kernel
theorem dX8_see_27 : decode cX8_see 27 = .ok (.aload_n 0, 1) := by decide +kernel
theorem dX8_see_28 : decode cX8_see 28 = .ok (.getfield 74, 3) := by decide +kernel
theorem dX8_see_31 : decode cX8_see 31 = .ok (.iload_n 1, 1) := by decide +kernel
theorem dX8_see_32 : decode cX8_see 32 = .ok (.iaload, 1) := by decide +kernel
theorem dX8_see_33 : decode cX8_see 33 = .ok (.ifCond .le 7, 3) := by decide +kernel
theorem dX8_see_36 : decode cX8_see 36 = .ok (.iconst 1, 1) := by decide +kernel
theorem dX8_see_37 : decode cX8_see 37 = .ok (.goto 4, 3) := by decide +kernel
theorem dX8_see_40 : decode cX8_see 40 = .ok (.iconst 0, 1) := by decide +kernel
theorem dX8_see_41 : decode cX8_see 41 = .ok (.isub, 1) := by decide +kernel
theorem dX8_see_42 : decode cX8_see 42 = .ok (.iastore, 1) := by decide +kernel
theorem dX8_see_43 : decode cX8_see 43 = .ok (.return_, 1) := by decide +kernel
theorem dX8_tick_0 : decode cX8_tick 0 = .ok (.iload_n 1, 1) := by decide +kernel
theorem dX8_tick_1 : decode cX8_tick 1 = .ok (.iconst 1, 1) := by decide +kernel
theorem dX8_tick_2 : decode cX8_tick 2 = .ok (.bipush 50, 2) := by decide +kernel
theorem dX8_tick_4 : decode cX8_tick 4 = .ok (.invokestatic 123, 3) := by decide +kernel
theorem dX8_tick_7 : decode cX8_tick 7 = .ok (.ifCond .ne 6, 3) := by decide +kernel
theorem dX8_tick_10 : decode cX8_tick 10 = .ok (.bipush (-2), 2) := by decide +kernel
theorem dX8_tick_12 : decode cX8_tick 12 = .ok (.ireturn, 1) := by decide +kernel
theorem dX8_tick_13 : decode cX8_tick 13 = .ok (.aload_n 0, 1) := by decide +kernel
theorem dX8_tick_14 : decode cX8_tick 14 = .ok (.getfield 175, 3) := by decide +kernel
theorem dX8_tick_17 : decode cX8_tick 17 = .ok (.ifCond .eq 6, 3) := by decide +kernel
theorem dX8_tick_20 : decode cX8_tick 20 = .ok (.bipush (-3), 2) := by decide +kernel
theorem dX8_tick_22 : decode cX8_tick 22 = .ok (.ireturn, 1) := by decide +kernel
theorem dX8_tick_23 : decode cX8_tick 23 = .ok (.aload_n 0, 1) := by decide +kernel
theorem dX8_tick_24 : decode cX8_tick 24 = .ok (.getfield 179, 3) := by decide +kernel
theorem dX8_tick_27 : decode cX8_tick 27 = .ok (.iload_n 1, 1) := by decide +kernel
theorem dX8_tick_28 : decode cX8_tick 28 = .ok (.iadd, 1) := by decide +kernel
theorem dX8_tick_29 : decode cX8_tick 29 = .ok (.sipush 5000, 3) := by decide +kernel
theorem dX8_tick_32 : decode cX8_tick 32 = .ok (.if_icmp .le 6, 3) := by decide +kernel
theorem dX8_tick_35 : decode cX8_tick 35 = .ok (.bipush (-4), 2) := by decide +kernel
theorem dX8_tick_37 : decode cX8_tick 37 = .ok (.ireturn, 1) := by decide +kernel
theorem dX8_tick_38 : decode cX8_tick 38 = .ok (.iconst 0, 1) := by decide +kernel
theorem dX8_tick_39 : decode cX8_tick 39 = .ok (.istore_n 2, 1) := by decide +kernel
theorem dX8_tick_40 : decode cX8_tick 40 = .ok (.iload_n 2, 1) := by decide +kernel
theorem dX8_tick_41 : decode cX8_tick 41 = .ok (.iload_n 1, 1) := by decide +kernel
theorem dX8_tick_42 : decode cX8_tick 42 = .ok (.if_icmp .ge 20, 3) := by decide +kernel
theorem dX8_tick_45 : decode cX8_tick 45 = .ok (.aload_n 0, 1) := by decide +kernel
theorem dX8_tick_46 : decode cX8_tick 46 = .ok (.getfield 175, 3) := by decide +kernel
theorem dX8_tick_49 : decode cX8_tick 49 = .ok (.ifCond .ne 13, 3) := by decide +kernel
theorem dX8_tick_52 : decode cX8_tick 52 = .ok (.aload_n 0, 1) := by decide +kernel
theorem dX8_tick_53 : decode cX8_tick 53 = .ok (.invokevirtual 186, 3) := by decide +kernel
theorem dX8_tick_56 : decode cX8_tick 56 = .ok (.iinc 2 1, 3) := by decide +kernel
theorem dX8_tick_59 : decode cX8_tick 59 = .ok (.goto (-19), 3) := by decide +kernel
theorem dX8_tick_62 : decode cX8_tick 62 = .ok (.iload_n 2, 1) := by decide +kernel
theorem dX8_tick_63 : decode cX8_tick 63 = .ok (.ireturn, 1) := by decide +kernel
theorem dX8_tap_0 : decode cX8_tap 0 = .ok (.aload_n 0, 1) := by decide +kernel
theorem dX8_tap_1 : decode cX8_tap 1 = .ok (.getfield 144, 3) := by decide +kernel
theorem dX8_tap_4 : decode cX8_tap 4 = .ok (.ifCond .ne 5, 3) := by decide +kernel
theorem dX8_tap_7 : decode cX8_tap 7 = .ok (.iconst (-1), 1) := by decide +kernel
theorem dX8_tap_8 : decode cX8_tap 8 = .ok (.ireturn, 1) := by decide +kernel
theorem dX8_tap_9 : decode cX8_tap 9 = .ok (.aload_n 0, 1) := by decide +kernel
theorem dX8_tap_10 : decode cX8_tap 10 = .ok (.getfield 189, 3) := by decide +kernel
theorem dX8_tap_13 : decode cX8_tap 13 = .ok (.bipush 60, 2) := by decide +kernel
theorem dX8_tap_15 : decode cX8_tap 15 = .ok (.if_icmp .ne 6, 3) := by decide +kernel
theorem dX8_tap_18 : decode cX8_tap 18 = .ok (.bipush (-4), 2) := by decide +kernel
theorem dX8_tap_20 : decode cX8_tap 20 = .ok (.ireturn, 1) := by decide +kernel
theorem dX8_tap_21 : decode cX8_tap 21 = .ok (.aload_n 0, 1) := by decide +kernel
theorem dX8_tap_22 : decode cX8_tap 22 = .ok (.getfield 53, 3) := by decide +kernel
theorem dX8_tap_25 : decode cX8_tap 25 = .ok (.aload_n 0, 1) := by decide +kernel
theorem dX8_tap_26 : decode cX8_tap 26 = .ok (.getfield 189, 3) := by decide +kernel
theorem dX8_tap_29 : decode cX8_tap 29 = .ok (.aload_n 0, 1) := by decide +kernel
theorem dX8_tap_30 : decode cX8_tap 30 = .ok (.getfield 144, 3) := by decide +kernel
theorem dX8_tap_33 : decode cX8_tap 33 = .ok (.iastore, 1) := by decide +kernel
theorem dX8_tap_34 : decode cX8_tap 34 = .ok (.aload_n 0, 1) := by decide +kernel
theorem dX8_tap_35 : decode cX8_tap 35 = .ok (.getfield 56, 3) := by decide +kernel
theorem dX8_tap_38 : decode cX8_tap 38 = .ok (.aload_n 0, 1) := by decide +kernel
theorem dX8_tap_39 : decode cX8_tap 39 = .ok (.getfield 189, 3) := by decide +kernel
theorem dX8_tap_42 : decode cX8_tap 42 = .ok (.aload_n 0, 1) := by decide +kernel
theorem dX8_tap_43 : decode cX8_tap 43 = .ok (.getfield 44, 3) := by decide +kernel
theorem dX8_tap_46 : decode cX8_tap 46 = .ok (.iastore, 1) := by decide +kernel
theorem dX8_tap_47 : decode cX8_tap 47 = .ok (.aload_n 0, 1) := by decide +kernel
theorem dX8_tap_48 : decode cX8_tap 48 = .ok (.getfield 59, 3) := by decide +kernel
theorem dX8_tap_51 : decode cX8_tap 51 = .ok (.aload_n 0, 1) := by decide +kernel
theorem dX8_tap_52 : decode cX8_tap 52 = .ok (.getfield 189, 3) := by decide +kernel
theorem dX8_tap_55 : decode cX8_tap 55 = .ok (.aload_n 0, 1) := by decide +kernel
theorem dX8_tap_56 : decode cX8_tap 56 = .ok (.getfield 47, 3) := by decide +kernel
theorem dX8_tap_59 : decode cX8_tap 59 = .ok (.iastore, 1) := by decide +kernel
theorem dX8_tap_60 : decode cX8_tap 60 = .ok (.aload_n 0, 1) := by decide +kernel
theorem dX8_tap_61 : decode cX8_tap 61 = .ok (.getfield 62, 3) := by decide +kernel
theorem dX8_tap_64 : decode cX8_tap 64 = .ok (.aload_n 0, 1) := by decide +kernel
theorem dX8_tap_65 : decode cX8_tap 65 = .ok (.getfield 189, 3) := by decide +kernel
theorem dX8_tap_68 : decode cX8_tap 68 = .ok (.aload_n 0, 1) := by decide +kernel
theorem dX8_tap_69 : decode cX8_tap 69 = .ok (.getfield 50, 3) := by decide +kernel
theorem dX8_tap_72 : decode cX8_tap 72 = .ok (.iastore, 1) := by decide +kernel
theorem dX8_tap_73 : decode cX8_tap 73 = .ok (.aload_n 0, 1) := by decide +kernel
theorem dX8_tap_74 : decode cX8_tap 74 = .ok (.getfield 65, 3) := by decide +kernel
theorem dX8_tap_77 : decode cX8_tap 77 = .ok (.aload_n 0, 1) := by decide +kernel
theorem dX8_tap_78 : decode cX8_tap 78 = .ok (.getfield 189, 3) := by decide +kernel
theorem dX8_tap_81 : decode cX8_tap 81 = .ok (.aload_n 0, 1) := by decide +kernel
theorem dX8_tap_82 : decode cX8_tap 82 = .ok (.getfield 179, 3) := by decide +kernel
theorem dX8_tap_85 : decode cX8_tap 85 = .ok (.iastore, 1) := by decide +kernel
theorem dX8_tap_86 : decode cX8_tap 86 = .ok (.aload_n 0, 1) := by decide +kernel
theorem dX8_tap_87 : decode cX8_tap 87 = .ok (.getfield 68, 3) := by decide +kernel
theorem dX8_tap_90 : decode cX8_tap 90 = .ok (.aload_n 0, 1) := by decide +kernel
theorem dX8_tap_91 : decode cX8_tap 91 = .ok (.getfield 189, 3) := by decide +kernel
theorem dX8_tap_94 : decode cX8_tap 94 = .ok (.iconst (-1), 1) := by decide +kernel
theorem dX8_tap_95 : decode cX8_tap 95 = .ok (.iastore, 1) := by decide +kernel
theorem dX8_tap_96 : decode cX8_tap 96 = .ok (.aload_n 0, 1) := by decide +kernel
theorem dX8_tap_97 : decode cX8_tap 97 = .ok (.dup, 1) := by decide +kernel
theorem dX8_tap_98 : decode cX8_tap 98 = .ok (.getfield 189, 3) := by decide +kernel
theorem dX8_tap_101 : decode cX8_tap 101 = .ok (.iconst 1, 1) := by decide +kernel
theorem dX8_tap_102 : decode cX8_tap 102 = .ok (.iadd, 1) := by decide +kernel
theorem dX8_tap_103 : decode cX8_tap 103 = .ok (.putfield 189, 3) := by decide +kernel
theorem dX8_tap_106 : decode cX8_tap 106 = .ok (.aload_n 0, 1) := by decide +kernel
theorem dX8_tap_107 : decode cX8_tap 107 = .ok (.iconst 0, 1) := by decide +kernel
theorem dX8_tap_108 : decode cX8_tap 108 = .ok (.putfield 144, 3) := by decide +kernel
theorem dX8_tap_111 : decode cX8_tap 111 = .ok (.aload_n 0, 1) := by decide +kernel
theorem dX8_tap_112 : decode cX8_tap 112 = .ok (.iconst (-1), 1) := by decide +kernel
theorem dX8_tap_113 : decode cX8_tap 113 = .ok (.putfield 44, 3) := by decide +kernel
theorem dX8_tap_116 : decode cX8_tap 116 = .ok (.aload_n 0, 1) := by decide +kernel
theorem dX8_tap_117 : decode cX8_tap 117 = .ok (.iconst (-1), 1) := by decide +kernel
theorem dX8_tap_118 : decode cX8_tap 118 = .ok (.putfield 47, 3) := by decide +kernel
theorem dX8_tap_121 : decode cX8_tap 121 = .ok (.aload_n 0, 1) := by decide +kernel
theorem dX8_tap_122 : decode cX8_tap 122 = .ok (.iconst (-1), 1) := by decide +kernel
theorem dX8_tap_123 : decode cX8_tap 123 = .ok (.putfield 50, 3) := by decide +kernel
theorem dX8_tap_126 : decode cX8_tap 126 = .ok (.aload_n 0, 1) := by decide +kernel
theorem dX8_tap_127 : decode cX8_tap 127 = .ok (.getfield 189, 3) := by decide +kernel
theorem dX8_tap_130 : decode cX8_tap 130 = .ok (.iconst 1, 1) := by decide +kernel
theorem dX8_tap_131 : decode cX8_tap 131 = .ok (.isub, 1) := by decide +kernel
theorem dX8_tap_132 : decode cX8_tap 132 = .ok (.ireturn, 1) := by decide +kernel
theorem dX8_about_0 : decode cX8_about 0 = .ok (.iload_n 1, 1) := by decide +kernel
theorem dX8_about_1 : decode cX8_about 1 = .ok (.tableswitch 136 0 11 #[63, 68, 73, 78, 83, 88, 98, 103, 108, 113, 126, 131], 63) := by decide +kernel
theorem dX8_about_64 : decode cX8_about 64 = .ok (.aload_n 0, 1) := by decide +kernel
theorem dX8_about_65 : decode cX8_about 65 = .ok (.getfield 141, 3) := by decide +kernel
theorem dX8_about_68 : decode cX8_about 68 = .ok (.ireturn, 1) := by decide +kernel
theorem dX8_about_69 : decode cX8_about 69 = .ok (.aload_n 0, 1) := by decide +kernel
theorem dX8_about_70 : decode cX8_about 70 = .ok (.getfield 144, 3) := by decide +kernel
theorem dX8_about_73 : decode cX8_about 73 = .ok (.ireturn, 1) := by decide +kernel
theorem dX8_about_74 : decode cX8_about 74 = .ok (.aload_n 0, 1) := by decide +kernel
theorem dX8_about_75 : decode cX8_about 75 = .ok (.getfield 150, 3) := by decide +kernel
theorem dX8_about_78 : decode cX8_about 78 = .ok (.ireturn, 1) := by decide +kernel
theorem dX8_about_79 : decode cX8_about 79 = .ok (.aload_n 0, 1) := by decide +kernel
theorem dX8_about_80 : decode cX8_about 80 = .ok (.getfield 172, 3) := by decide +kernel
theorem dX8_about_83 : decode cX8_about 83 = .ok (.ireturn, 1) := by decide +kernel
theorem dX8_about_84 : decode cX8_about 84 = .ok (.aload_n 0, 1) := by decide +kernel
theorem dX8_about_85 : decode cX8_about 85 = .ok (.getfield 179, 3) := by decide +kernel
theorem dX8_about_88 : decode cX8_about 88 = .ok (.ireturn, 1) := by decide +kernel
theorem dX8_about_89 : decode cX8_about 89 = .ok (.aload_n 0, 1) := by decide +kernel
theorem dX8_about_90 : decode cX8_about 90 = .ok (.getfield 127, 3) := by decide +kernel
theorem dX8_about_93 : decode cX8_about 93 = .ok (.aload_n 0, 1) := by decide +kernel
theorem dX8_about_94 : decode cX8_about 94 = .ok (.getfield 130, 3) := by decide +kernel
theorem dX8_about_97 : decode cX8_about 97 = .ok (.isub, 1) := by decide +kernel
theorem dX8_about_98 : decode cX8_about 98 = .ok (.ireturn, 1) := by decide +kernel
theorem dX8_about_99 : decode cX8_about 99 = .ok (.aload_n 0, 1) := by decide +kernel
theorem dX8_about_100 : decode cX8_about 100 = .ok (.getfield 163, 3) := by decide +kernel
theorem dX8_about_103 : decode cX8_about 103 = .ok (.ireturn, 1) := by decide +kernel
theorem dX8_about_104 : decode cX8_about 104 = .ok (.aload_n 0, 1) := by decide +kernel
theorem dX8_about_105 : decode cX8_about 105 = .ok (.getfield 153, 3) := by decide +kernel
theorem dX8_about_108 : decode cX8_about 108 = .ok (.ireturn, 1) := by decide +kernel
theorem dX8_about_109 : decode cX8_about 109 = .ok (.aload_n 0, 1) := by decide +kernel
theorem dX8_about_110 : decode cX8_about 110 = .ok (.getfield 169, 3) := by decide +kernel
theorem dX8_about_113 : decode cX8_about 113 = .ok (.ireturn, 1) := by decide +kernel
theorem dX8_about_114 : decode cX8_about 114 = .ok (.aload_n 0, 1) := by decide +kernel
theorem dX8_about_115 : decode cX8_about 115 = .ok (.getfield 175, 3) := by decide +kernel
theorem dX8_about_118 : decode cX8_about 118 = .ok (.ifCond .eq 7, 3) := by decide +kernel
theorem dX8_about_121 : decode cX8_about 121 = .ok (.iconst 1, 1) := by decide +kernel
theorem dX8_about_122 : decode cX8_about 122 = .ok (.goto 4, 3) := by decide +kernel
theorem dX8_about_125 : decode cX8_about 125 = .ok (.iconst 0, 1) := by decide +kernel
theorem dX8_about_126 : decode cX8_about 126 = .ok (.ireturn, 1) := by decide +kernel
theorem dX8_about_127 : decode cX8_about 127 = .ok (.aload_n 0, 1) := by decide +kernel
theorem dX8_about_128 : decode cX8_about 128 = .ok (.getfield 147, 3) := by decide +kernel
theorem dX8_about_131 : decode cX8_about 131 = .ok (.ireturn, 1) := by decide +kernel
theorem dX8_about_132 : decode cX8_about 132 = .ok (.aload_n 0, 1) := by decide +kernel
theorem dX8_about_133 : decode cX8_about 133 = .ok (.getfield 133, 3) := by decide +kernel
theorem dX8_about_136 : decode cX8_about 136 = .ok (.ireturn, 1) := by decide +kernel
theorem dX8_about_137 : decode cX8_about 137 = .ok (.bipush (-2), 2) := by decide +kernel
theorem dX8_about_139 : decode cX8_about 139 = .ok (.ireturn, 1) := by decide +kernel
theorem dX8_pig_0 : decode cX8_pig 0 = .ok (.iload_n 1, 1) := by decide +kernel
theorem dX8_pig_1 : decode cX8_pig 1 = .ok (.ifCond .lt 12, 3) := by decide +kernel
theorem dX8_pig_4 : decode cX8_pig 4 = .ok (.iload_n 2, 1) := by decide +kernel
theorem dX8_pig_5 : decode cX8_pig 5 = .ok (.iconst 0, 1) := by decide +kernel
theorem dX8_pig_6 : decode cX8_pig 6 = .ok (.iconst 5, 1) := by decide +kernel
theorem dX8_pig_7 : decode cX8_pig 7 = .ok (.invokestatic 123, 3) := by decide +kernel
theorem dX8_pig_10 : decode cX8_pig 10 = .ok (.ifCond .ne 6, 3) := by decide +kernel
theorem dX8_pig_13 : decode cX8_pig 13 = .ok (.bipush (-2), 2) := by decide +kernel
theorem dX8_pig_15 : decode cX8_pig 15 = .ok (.ireturn, 1) := by decide +kernel
theorem dX8_pig_16 : decode cX8_pig 16 = .ok (.iload_n 1, 1) := by decide +kernel
theorem dX8_pig_17 : decode cX8_pig 17 = .ok (.aload_n 0, 1) := by decide +kernel
theorem dX8_pig_18 : decode cX8_pig 18 = .ok (.getfield 189, 3) := by decide +kernel
theorem dX8_pig_21 : decode cX8_pig 21 = .ok (.if_icmp .lt 5, 3) := by decide +kernel
theorem dX8_pig_24 : decode cX8_pig 24 = .ok (.iconst (-1), 1) := by decide +kernel
theorem dX8_pig_25 : decode cX8_pig 25 = .ok (.ireturn, 1) := by decide +kernel
theorem dX8_pig_26 : decode cX8_pig 26 = .ok (.iload_n 2, 1) := by decide +kernel
theorem dX8_pig_27 : decode cX8_pig 27 = .ok (.tableswitch 68 0 4 #[33, 40, 47, 54, 61], 33) := by decide +kernel
theorem dX8_pig_60 : decode cX8_pig 60 = .ok (.aload_n 0, 1) := by decide +kernel
theorem dX8_pig_61 : decode cX8_pig 61 = .ok (.getfield 53, 3) := by decide +kernel
theorem dX8_pig_64 : decode cX8_pig 64 = .ok (.iload_n 1, 1) := by decide +kernel
theorem dX8_pig_65 : decode cX8_pig 65 = .ok (.iaload, 1) := by decide +kernel
theorem dX8_pig_66 : decode cX8_pig 66 = .ok (.ireturn, 1) := by decide +kernel
theorem dX8_pig_67 : decode cX8_pig 67 = .ok (.aload_n 0, 1) := by decide +kernel
theorem dX8_pig_68 : decode cX8_pig 68 = .ok (.getfield 56, 3) := by decide +kernel
theorem dX8_pig_71 : decode cX8_pig 71 = .ok (.iload_n 1, 1) := by decide +kernel
theorem dX8_pig_72 : decode cX8_pig 72 = .ok (.iaload, 1) := by decide +kernel
theorem dX8_pig_73 : decode cX8_pig 73 = .ok (.ireturn, 1) := by decide +kernel
theorem dX8_pig_74 : decode cX8_pig 74 = .ok (.aload_n 0, 1) := by decide +kernel
theorem dX8_pig_75 : decode cX8_pig 75 = .ok (.getfield 59, 3) := by decide +kernel
theorem dX8_pig_78 : decode cX8_pig 78 = .ok (.iload_n 1, 1) := by decide +kernel
theorem dX8_pig_79 : decode cX8_pig 79 = .ok (.iaload, 1) := by decide +kernel
theorem dX8_pig_80 : decode cX8_pig 80 = .ok (.ireturn, 1) := by decide +kernel
theorem dX8_pig_81 : decode cX8_pig 81 = .ok (.aload_n 0, 1) := by decide +kernel
theorem dX8_pig_82 : decode cX8_pig 82 = .ok (.getfield 62, 3) := by decide +kernel
theorem dX8_pig_85 : decode cX8_pig 85 = .ok (.iload_n 1, 1) := by decide +kernel
theorem dX8_pig_86 : decode cX8_pig 86 = .ok (.iaload, 1) := by decide +kernel
theorem dX8_pig_87 : decode cX8_pig 87 = .ok (.ireturn, 1) := by decide +kernel
theorem dX8_pig_88 : decode cX8_pig 88 = .ok (.aload_n 0, 1) := by decide +kernel
theorem dX8_pig_89 : decode cX8_pig 89 = .ok (.getfield 65, 3) := by decide +kernel
theorem dX8_pig_92 : decode cX8_pig 92 = .ok (.iload_n 1, 1) := by decide +kernel
theorem dX8_pig_93 : decode cX8_pig 93 = .ok (.iaload, 1) := by decide +kernel
theorem dX8_pig_94 : decode cX8_pig 94 = .ok (.ireturn, 1) := by decide +kernel
theorem dX8_pig_95 : decode cX8_pig 95 = .ok (.aload_n 0, 1) := by decide +kernel
theorem dX8_pig_96 : decode cX8_pig 96 = .ok (.getfield 68, 3) := by decide +kernel
theorem dX8_pig_99 : decode cX8_pig 99 = .ok (.iload_n 1, 1) := by decide +kernel
theorem dX8_pig_100 : decode cX8_pig 100 = .ok (.iaload, 1) := by decide +kernel
theorem dX8_pig_101 : decode cX8_pig 101 = .ok (.ireturn, 1) := by decide +kernel
theorem dX8_sign_0 : decode cX8_sign 0 = .ok (.iload_n 1, 1) := by decide +kernel
theorem dX8_sign_1 : decode cX8_sign 1 = .ok (.iconst 0, 1) := by decide +kernel
theorem dX8_sign_2 : decode cX8_sign 2 = .ok (.iconst 2, 1) := by decide +kernel
theorem dX8_sign_3 : decode cX8_sign 3 = .ok (.invokestatic 123, 3) := by decide +kernel
theorem dX8_sign_6 : decode cX8_sign 6 = .ok (.ifCond .eq 12, 3) := by decide +kernel
theorem dX8_sign_9 : decode cX8_sign 9 = .ok (.aload_n 0, 1) := by decide +kernel
theorem dX8_sign_10 : decode cX8_sign 10 = .ok (.getfield 71, 3) := by decide +kernel
theorem dX8_sign_13 : decode cX8_sign 13 = .ok (.iload_n 1, 1) := by decide +kernel
theorem dX8_sign_14 : decode cX8_sign 14 = .ok (.iaload, 1) := by decide +kernel
theorem dX8_sign_15 : decode cX8_sign 15 = .ok (.goto 5, 3) := by decide +kernel
theorem dX8_sign_18 : decode cX8_sign 18 = .ok (.bipush (-2), 2) := by decide +kernel
theorem dX8_sign_20 : decode cX8_sign 20 = .ok (.ireturn, 1) := by decide +kernel
theorem dX8_lose_0 : decode cX8_lose 0 = .ok (.iload_n 1, 1) := by decide +kernel
theorem dX8_lose_1 : decode cX8_lose 1 = .ok (.iconst 0, 1) := by decide +kernel
theorem dX8_lose_2 : decode cX8_lose 2 = .ok (.iconst 2, 1) := by decide +kernel
theorem dX8_lose_3 : decode cX8_lose 3 = .ok (.invokestatic 123, 3) := by decide +kernel
theorem dX8_lose_6 : decode cX8_lose 6 = .ok (.ifCond .eq 13, 3) := by decide +kernel
theorem dX8_lose_9 : decode cX8_lose 9 = .ok (.iload_n 2, 1) := by decide +kernel
theorem dX8_lose_10 : decode cX8_lose 10 = .ok (.iconst 0, 1) := by decide +kernel
theorem dX8_lose_11 : decode cX8_lose 11 = .ok (.bipush 50, 2) := by decide +kernel
theorem dX8_lose_13 : decode cX8_lose 13 = .ok (.invokestatic 123, 3) := by decide +kernel
theorem dX8_lose_16 : decode cX8_lose 16 = .ok (.ifCond .ne 6, 3) := by decide +kernel
theorem dX8_lose_19 : decode cX8_lose 19 = .ok (.bipush (-2), 2) := by decide +kernel
theorem dX8_lose_21 : decode cX8_lose 21 = .ok (.ireturn, 1) := by decide +kernel
theorem dX8_lose_22 : decode cX8_lose 22 = .ok (.aload_n 0, 1) := by decide +kernel
theorem dX8_lose_23 : decode cX8_lose 23 = .ok (.getfield 74, 3) := by decide +kernel
theorem dX8_lose_26 : decode cX8_lose 26 = .ok (.iload_n 1, 1) := by decide +kernel
theorem dX8_lose_27 : decode cX8_lose 27 = .ok (.iload_n 2, 1) := by decide +kernel
theorem dX8_lose_28 : decode cX8_lose 28 = .ok (.iastore, 1) := by decide +kernel
theorem dX8_lose_29 : decode cX8_lose 29 = .ok (.iconst 1, 1) := by decide +kernel
theorem dX8_lose_30 : decode cX8_lose 30 = .ok (.ireturn, 1) := by decide +kernel
theorem dX8_rule_0 : decode cX8_rule 0 = .ok (.iload_n 1, 1) := by decide +kernel
theorem dX8_rule_1 : decode cX8_rule 1 = .ok (.iconst 0, 1) := by decide +kernel
theorem dX8_rule_2 : decode cX8_rule 2 = .ok (.iconst 2, 1) := by decide +kernel
theorem dX8_rule_3 : decode cX8_rule 3 = .ok (.invokestatic 123, 3) := by decide +kernel
theorem dX8_rule_6 : decode cX8_rule 6 = .ok (.ifCond .eq 24, 3) := by decide +kernel
theorem dX8_rule_9 : decode cX8_rule 9 = .ok (.iload_n 3, 1) := by decide +kernel
theorem dX8_rule_10 : decode cX8_rule 10 = .ok (.iconst 0, 1) := by decide +kernel
theorem dX8_rule_11 : decode cX8_rule 11 = .ok (.sipush 1000, 3) := by decide +kernel
theorem dX8_rule_14 : decode cX8_rule 14 = .ok (.invokestatic 123, 3) := by decide +kernel
theorem dX8_rule_17 : decode cX8_rule 17 = .ok (.ifCond .eq 13, 3) := by decide +kernel
theorem dX8_rule_20 : decode cX8_rule 20 = .ok (.iload 4, 2) := by decide +kernel
theorem dX8_rule_22 : decode cX8_rule 22 = .ok (.iconst 0, 1) := by decide +kernel
theorem dX8_rule_23 : decode cX8_rule 23 = .ok (.iconst 2, 1) := by decide +kernel
theorem dX8_rule_24 : decode cX8_rule 24 = .ok (.invokestatic 123, 3) := by decide +kernel
theorem dX8_rule_27 : decode cX8_rule 27 = .ok (.ifCond .ne 6, 3) := by decide +kernel
theorem dX8_rule_30 : decode cX8_rule 30 = .ok (.bipush (-2), 2) := by decide +kernel
theorem dX8_rule_32 : decode cX8_rule 32 = .ok (.ireturn, 1) := by decide +kernel
theorem dX8_rule_33 : decode cX8_rule 33 = .ok (.aload_n 0, 1) := by decide +kernel
theorem dX8_rule_34 : decode cX8_rule 34 = .ok (.getfield 156, 3) := by decide +kernel
theorem dX8_rule_37 : decode cX8_rule 37 = .ok (.bipush 8, 2) := by decide +kernel
theorem dX8_rule_39 : decode cX8_rule 39 = .ok (.if_icmp .ne 6, 3) := by decide +kernel
theorem dX8_rule_42 : decode cX8_rule 42 = .ok (.bipush (-4), 2) := by decide +kernel
theorem dX8_rule_44 : decode cX8_rule 44 = .ok (.ireturn, 1) := by decide +kernel
theorem dX8_rule_45 : decode cX8_rule 45 = .ok (.aload_n 0, 1) := by decide +kernel
theorem dX8_rule_46 : decode cX8_rule 46 = .ok (.getfield 77, 3) := by decide +kernel
theorem dX8_rule_49 : decode cX8_rule 49 = .ok (.aload_n 0, 1) := by decide +kernel
theorem dX8_rule_50 : decode cX8_rule 50 = .ok (.getfield 156, 3) := by decide +kernel
theorem dX8_rule_53 : decode cX8_rule 53 = .ok (.iload_n 1, 1) := by decide +kernel
theorem dX8_rule_54 : decode cX8_rule 54 = .ok (.iastore, 1) := by decide +kernel
theorem dX8_rule_55 : decode cX8_rule 55 = .ok (.aload_n 0, 1) := by decide +kernel
theorem dX8_rule_56 : decode cX8_rule 56 = .ok (.getfield 80, 3) := by decide +kernel
theorem dX8_rule_59 : decode cX8_rule 59 = .ok (.aload_n 0, 1) := by decide +kernel
theorem dX8_rule_60 : decode cX8_rule 60 = .ok (.getfield 156, 3) := by decide +kernel
theorem dX8_rule_63 : decode cX8_rule 63 = .ok (.iload_n 2, 1) := by decide +kernel
theorem dX8_rule_64 : decode cX8_rule 64 = .ok (.bastore, 1) := by decide +kernel
theorem dX8_rule_65 : decode cX8_rule 65 = .ok (.aload_n 0, 1) := by decide +kernel
theorem dX8_rule_66 : decode cX8_rule 66 = .ok (.getfield 84, 3) := by decide +kernel
theorem dX8_rule_69 : decode cX8_rule 69 = .ok (.aload_n 0, 1) := by decide +kernel
theorem dX8_rule_70 : decode cX8_rule 70 = .ok (.getfield 156, 3) := by decide +kernel
theorem dX8_rule_73 : decode cX8_rule 73 = .ok (.iload_n 3, 1) := by decide +kernel
theorem dX8_rule_74 : decode cX8_rule 74 = .ok (.iastore, 1) := by decide +kernel
theorem dX8_rule_75 : decode cX8_rule 75 = .ok (.aload_n 0, 1) := by decide +kernel
theorem dX8_rule_76 : decode cX8_rule 76 = .ok (.getfield 87, 3) := by decide +kernel
theorem dX8_rule_79 : decode cX8_rule 79 = .ok (.aload_n 0, 1) := by decide +kernel
theorem dX8_rule_80 : decode cX8_rule 80 = .ok (.getfield 156, 3) := by decide +kernel
theorem dX8_rule_83 : decode cX8_rule 83 = .ok (.iload 4, 2) := by decide +kernel
theorem dX8_rule_85 : decode cX8_rule 85 = .ok (.iastore, 1) := by decide +kernel
theorem dX8_rule_86 : decode cX8_rule 86 = .ok (.aload_n 0, 1) := by decide +kernel
theorem dX8_rule_87 : decode cX8_rule 87 = .ok (.dup, 1) := by decide +kernel
theorem dX8_rule_88 : decode cX8_rule 88 = .ok (.getfield 156, 3) := by decide +kernel
theorem dX8_rule_91 : decode cX8_rule 91 = .ok (.iconst 1, 1) := by decide +kernel
theorem dX8_rule_92 : decode cX8_rule 92 = .ok (.iadd, 1) := by decide +kernel
theorem dX8_rule_93 : decode cX8_rule 93 = .ok (.putfield 156, 3) := by decide +kernel
theorem dX8_rule_96 : decode cX8_rule 96 = .ok (.aload_n 0, 1) := by decide +kernel
theorem dX8_rule_97 : decode cX8_rule 97 = .ok (.getfield 156, 3) := by decide +kernel
theorem dX8_rule_100 : decode cX8_rule 100 = .ok (.iconst 1, 1) := by decide +kernel
theorem dX8_rule_101 : decode cX8_rule 101 = .ok (.isub, 1) := by decide +kernel
theorem dX8_rule_102 : decode cX8_rule 102 = .ok (.ireturn, 1) := by decide +kernel
theorem dX8_unrule_0 : decode cX8_unrule 0 = .ok (.aload_n 0, 1) := by decide +kernel
theorem dX8_unrule_1 : decode cX8_unrule 1 = .ok (.getfield 156, 3) := by decide +kernel
theorem dX8_unrule_4 : decode cX8_unrule 4 = .ok (.istore_n 1, 1) := by decide +kernel
theorem dX8_unrule_5 : decode cX8_unrule 5 = .ok (.aload_n 0, 1) := by decide +kernel
theorem dX8_unrule_6 : decode cX8_unrule 6 = .ok (.iconst 0, 1) := by decide +kernel
theorem dX8_unrule_7 : decode cX8_unrule 7 = .ok (.putfield 156, 3) := by decide +kernel
theorem dX8_unrule_10 : decode cX8_unrule 10 = .ok (.iload_n 1, 1) := by decide +kernel
theorem dX8_unrule_11 : decode cX8_unrule 11 = .ok (.ireturn, 1) := by decide +kernel
theorem dX8_forge_0 : decode cX8_forge 0 = .ok (.iload_n 1, 1) := by decide +kernel
theorem dX8_forge_1 : decode cX8_forge 1 = .ok (.iconst 0, 1) := by decide +kernel
theorem dX8_forge_2 : decode cX8_forge 2 = .ok (.bipush 15, 2) := by decide +kernel
theorem dX8_forge_4 : decode cX8_forge 4 = .ok (.invokestatic 123, 3) := by decide +kernel
theorem dX8_forge_7 : decode cX8_forge 7 = .ok (.ifCond .eq 24, 3) := by decide +kernel
theorem dX8_forge_10 : decode cX8_forge 10 = .ok (.iload_n 2, 1) := by decide +kernel
theorem dX8_forge_11 : decode cX8_forge 11 = .ok (.iconst 0, 1) := by decide +kernel
theorem dX8_forge_12 : decode cX8_forge 12 = .ok (.sipush 2000, 3) := by decide +kernel
theorem dX8_forge_15 : decode cX8_forge 15 = .ok (.invokestatic 123, 3) := by decide +kernel
theorem dX8_forge_18 : decode cX8_forge 18 = .ok (.ifCond .eq 13, 3) := by decide +kernel
theorem dX8_forge_21 : decode cX8_forge 21 = .ok (.iload_n 3, 1) := by decide +kernel
theorem dX8_forge_22 : decode cX8_forge 22 = .ok (.iconst 1, 1) := by decide +kernel
theorem dX8_forge_23 : decode cX8_forge 23 = .ok (.bipush 50, 2) := by decide +kernel
theorem dX8_forge_25 : decode cX8_forge 25 = .ok (.invokestatic 123, 3) := by decide +kernel
theorem dX8_forge_28 : decode cX8_forge 28 = .ok (.ifCond .ne 6, 3) := by decide +kernel
theorem dX8_forge_31 : decode cX8_forge 31 = .ok (.bipush (-2), 2) := by decide +kernel
theorem dX8_forge_33 : decode cX8_forge 33 = .ok (.ireturn, 1) := by decide +kernel
theorem dX8_forge_34 : decode cX8_forge 34 = .ok (.aload_n 0, 1) := by decide +kernel
theorem dX8_forge_35 : decode cX8_forge 35 = .ok (.getfield 192, 3) := by decide +kernel
theorem dX8_forge_38 : decode cX8_forge 38 = .ok (.iconst 3, 1) := by decide +kernel
theorem dX8_forge_39 : decode cX8_forge 39 = .ok (.if_icmp .ne 6, 3) := by decide +kernel
theorem dX8_forge_42 : decode cX8_forge 42 = .ok (.bipush (-4), 2) := by decide +kernel
theorem dX8_forge_44 : decode cX8_forge 44 = .ok (.ireturn, 1) := by decide +kernel
theorem dX8_forge_45 : decode cX8_forge 45 = .ok (.aload_n 0, 1) := by decide +kernel
theorem dX8_forge_46 : decode cX8_forge 46 = .ok (.getfield 90, 3) := by decide +kernel
theorem dX8_forge_49 : decode cX8_forge 49 = .ok (.aload_n 0, 1) := by decide +kernel
theorem dX8_forge_50 : decode cX8_forge 50 = .ok (.getfield 192, 3) := by decide +kernel
theorem dX8_forge_53 : decode cX8_forge 53 = .ok (.iload_n 1, 1) := by decide +kernel
theorem dX8_forge_54 : decode cX8_forge 54 = .ok (.iastore, 1) := by decide +kernel
theorem dX8_forge_55 : decode cX8_forge 55 = .ok (.aload_n 0, 1) := by decide +kernel
theorem dX8_forge_56 : decode cX8_forge 56 = .ok (.getfield 93, 3) := by decide +kernel
theorem dX8_forge_59 : decode cX8_forge 59 = .ok (.aload_n 0, 1) := by decide +kernel
theorem dX8_forge_60 : decode cX8_forge 60 = .ok (.getfield 192, 3) := by decide +kernel
theorem dX8_forge_63 : decode cX8_forge 63 = .ok (.iload_n 2, 1) := by decide +kernel
theorem dX8_forge_64 : decode cX8_forge 64 = .ok (.iastore, 1) := by decide +kernel
theorem dX8_forge_65 : decode cX8_forge 65 = .ok (.aload_n 0, 1) := by decide +kernel
theorem dX8_forge_66 : decode cX8_forge 66 = .ok (.getfield 96, 3) := by decide +kernel
theorem dX8_forge_69 : decode cX8_forge 69 = .ok (.aload_n 0, 1) := by decide +kernel
theorem dX8_forge_70 : decode cX8_forge 70 = .ok (.getfield 192, 3) := by decide +kernel
theorem dX8_forge_73 : decode cX8_forge 73 = .ok (.iload_n 3, 1) := by decide +kernel
theorem dX8_forge_74 : decode cX8_forge 74 = .ok (.iastore, 1) := by decide +kernel
theorem dX8_forge_75 : decode cX8_forge 75 = .ok (.aload_n 0, 1) := by decide +kernel
theorem dX8_forge_76 : decode cX8_forge 76 = .ok (.dup, 1) := by decide +kernel
theorem dX8_forge_77 : decode cX8_forge 77 = .ok (.getfield 192, 3) := by decide +kernel
theorem dX8_forge_80 : decode cX8_forge 80 = .ok (.iconst 1, 1) := by decide +kernel
theorem dX8_forge_81 : decode cX8_forge 81 = .ok (.iadd, 1) := by decide +kernel
theorem dX8_forge_82 : decode cX8_forge 82 = .ok (.putfield 192, 3) := by decide +kernel
theorem dX8_forge_85 : decode cX8_forge 85 = .ok (.aload_n 0, 1) := by decide +kernel
theorem dX8_forge_86 : decode cX8_forge 86 = .ok (.getfield 192, 3) := by decide +kernel
theorem dX8_forge_89 : decode cX8_forge 89 = .ok (.iconst 1, 1) := by decide +kernel
theorem dX8_forge_90 : decode cX8_forge 90 = .ok (.isub, 1) := by decide +kernel
theorem dX8_forge_91 : decode cX8_forge 91 = .ok (.ireturn, 1) := by decide +kernel
theorem dX8_digit_0 : decode cX8_digit 0 = .ok (.iload_n 1, 1) := by decide +kernel
theorem dX8_digit_1 : decode cX8_digit 1 = .ok (.istore_n 3, 1) := by decide +kernel
theorem dX8_digit_2 : decode cX8_digit 2 = .ok (.aload_n 0, 1) := by decide +kernel
theorem dX8_digit_3 : decode cX8_digit 3 = .ok (.getfield 195, 3) := by decide +kernel
theorem dX8_digit_6 : decode cX8_digit 6 = .ok (.iconst 1, 1) := by decide +kernel
theorem dX8_digit_7 : decode cX8_digit 7 = .ok (.isub, 1) := by decide +kernel
theorem dX8_digit_8 : decode cX8_digit 8 = .ok (.istore 4, 2) := by decide +kernel
theorem dX8_digit_10 : decode cX8_digit 10 = .ok (.iload 4, 2) := by decide +kernel
theorem dX8_digit_12 : decode cX8_digit 12 = .ok (.iload_n 2, 1) := by decide +kernel
theorem dX8_digit_13 : decode cX8_digit 13 = .ok (.if_icmp .le 18, 3) := by decide +kernel
theorem dX8_digit_16 : decode cX8_digit 16 = .ok (.iload_n 3, 1) := by decide +kernel
theorem dX8_digit_17 : decode cX8_digit 17 = .ok (.aload_n 0, 1) := by decide +kernel
theorem dX8_digit_18 : decode cX8_digit 18 = .ok (.getfield 192, 3) := by decide +kernel
theorem dX8_digit_21 : decode cX8_digit 21 = .ok (.iconst 1, 1) := by decide +kernel
theorem dX8_digit_22 : decode cX8_digit 22 = .ok (.iadd, 1) := by decide +kernel
theorem dX8_digit_23 : decode cX8_digit 23 = .ok (.idiv, 1) := by decide +kernel
theorem dX8_digit_24 : decode cX8_digit 24 = .ok (.istore_n 3, 1) := by decide +kernel
theorem dX8_digit_25 : decode cX8_digit 25 = .ok (.iinc 4 (-1), 3) := by decide +kernel
theorem dX8_digit_28 : decode cX8_digit 28 = .ok (.goto (-18), 3) := by decide +kernel
theorem dX8_digit_31 : decode cX8_digit 31 = .ok (.iload_n 3, 1) := by decide +kernel
theorem dX8_digit_32 : decode cX8_digit 32 = .ok (.aload_n 0, 1) := by decide +kernel
theorem dX8_digit_33 : decode cX8_digit 33 = .ok (.getfield 192, 3) := by decide +kernel
theorem dX8_digit_36 : decode cX8_digit 36 = .ok (.iconst 1, 1) := by decide +kernel
theorem dX8_digit_37 : decode cX8_digit 37 = .ok (.iadd, 1) := by decide +kernel
theorem dX8_digit_38 : decode cX8_digit 38 = .ok (.irem, 1) := by decide +kernel
theorem dX8_digit_39 : decode cX8_digit 39 = .ok (.ireturn, 1) := by decide +kernel
theorem dX8_payOf_0 : decode cX8_payOf 0 = .ok (.iconst 0, 1) := by decide +kernel
theorem dX8_payOf_1 : decode cX8_payOf 1 = .ok (.istore_n 2, 1) := by decide +kernel
theorem dX8_payOf_2 : decode cX8_payOf 2 = .ok (.iload_n 2, 1) := by decide +kernel
theorem dX8_payOf_3 : decode cX8_payOf 3 = .ok (.aload_n 0, 1) := by decide +kernel
theorem dX8_payOf_4 : decode cX8_payOf 4 = .ok (.getfield 192, 3) := by decide +kernel
theorem dX8_payOf_7 : decode cX8_payOf 7 = .ok (.if_icmp .ge 21, 3) := by decide +kernel
theorem dX8_payOf_10 : decode cX8_payOf 10 = .ok (.aload_n 0, 1) := by decide +kernel
theorem dX8_payOf_11 : decode cX8_payOf 11 = .ok (.getfield 120, 3) := by decide +kernel
theorem dX8_payOf_14 : decode cX8_payOf 14 = .ok (.iload_n 2, 1) := by decide +kernel
theorem dX8_payOf_15 : decode cX8_payOf 15 = .ok (.aload_n 0, 1) := by decide +kernel
theorem dX8_payOf_16 : decode cX8_payOf 16 = .ok (.getfield 93, 3) := by decide +kernel
theorem dX8_payOf_19 : decode cX8_payOf 19 = .ok (.iload_n 2, 1) := by decide +kernel
theorem dX8_payOf_20 : decode cX8_payOf 20 = .ok (.iaload, 1) := by decide +kernel
theorem dX8_payOf_21 : decode cX8_payOf 21 = .ok (.iastore, 1) := by decide +kernel
theorem dX8_payOf_22 : decode cX8_payOf 22 = .ok (.iinc 2 1, 3) := by decide +kernel
theorem dX8_payOf_25 : decode cX8_payOf 25 = .ok (.goto (-23), 3) := by decide +kernel
theorem dX8_payOf_28 : decode cX8_payOf 28 = .ok (.iconst 0, 1) := by decide +kernel
theorem dX8_payOf_29 : decode cX8_payOf 29 = .ok (.istore_n 2, 1) := by decide +kernel
theorem dX8_payOf_30 : decode cX8_payOf 30 = .ok (.iconst 0, 1) := by decide +kernel
theorem dX8_payOf_31 : decode cX8_payOf 31 = .ok (.istore_n 3, 1) := by decide +kernel
theorem dX8_payOf_32 : decode cX8_payOf 32 = .ok (.iload_n 3, 1) := by decide +kernel
theorem dX8_payOf_33 : decode cX8_payOf 33 = .ok (.aload_n 0, 1) := by decide +kernel
theorem dX8_payOf_34 : decode cX8_payOf 34 = .ok (.getfield 195, 3) := by decide +kernel
theorem dX8_payOf_37 : decode cX8_payOf 37 = .ok (.if_icmp .ge 108, 3) := by decide +kernel
theorem dX8_payOf_40 : decode cX8_payOf 40 = .ok (.aload_n 0, 1) := by decide +kernel
theorem dX8_payOf_41 : decode cX8_payOf 41 = .ok (.iload_n 1, 1) := by decide +kernel
theorem dX8_payOf_42 : decode cX8_payOf 42 = .ok (.iload_n 3, 1) := by decide +kernel
theorem dX8_payOf_43 : decode cX8_payOf 43 = .ok (.invokevirtual 198, 3) := by decide +kernel
theorem dX8_payOf_46 : decode cX8_payOf 46 = .ok (.istore 4, 2) := by decide +kernel
theorem dX8_payOf_48 : decode cX8_payOf 48 = .ok (.iload 4, 2) := by decide +kernel
theorem dX8_payOf_50 : decode cX8_payOf 50 = .ok (.aload_n 0, 1) := by decide +kernel
theorem dX8_payOf_51 : decode cX8_payOf 51 = .ok (.getfield 192, 3) := by decide +kernel
theorem dX8_payOf_54 : decode cX8_payOf 54 = .ok (.if_icmp .ge 85, 3) := by decide +kernel
theorem dX8_payOf_57 : decode cX8_payOf 57 = .ok (.aload_n 0, 1) := by decide +kernel
theorem dX8_payOf_58 : decode cX8_payOf 58 = .ok (.getfield 117, 3) := by decide +kernel
theorem dX8_payOf_61 : decode cX8_payOf 61 = .ok (.iload_n 3, 1) := by decide +kernel
theorem dX8_payOf_62 : decode cX8_payOf 62 = .ok (.iaload, 1) := by decide +kernel
theorem dX8_payOf_63 : decode cX8_payOf 63 = .ok (.istore 5, 2) := by decide +kernel
theorem dX8_payOf_65 : decode cX8_payOf 65 = .ok (.aload_n 0, 1) := by decide +kernel
theorem dX8_payOf_66 : decode cX8_payOf 66 = .ok (.getfield 90, 3) := by decide +kernel
theorem dX8_payOf_69 : decode cX8_payOf 69 = .ok (.iload 4, 2) := by decide +kernel
theorem dX8_payOf_71 : decode cX8_payOf 71 = .ok (.iaload, 1) := by decide +kernel
theorem dX8_payOf_72 : decode cX8_payOf 72 = .ok (.aload_n 0, 1) := by decide +kernel
theorem dX8_payOf_73 : decode cX8_payOf 73 = .ok (.getfield 56, 3) := by decide +kernel
theorem dX8_payOf_76 : decode cX8_payOf 76 = .ok (.iload 5, 2) := by decide +kernel
theorem dX8_payOf_78 : decode cX8_payOf 78 = .ok (.iaload, 1) := by decide +kernel
theorem dX8_payOf_79 : decode cX8_payOf 79 = .ok (.ishr, 1) := by decide +kernel
theorem dX8_payOf_80 : decode cX8_payOf 80 = .ok (.iconst 1, 1) := by decide +kernel
theorem dX8_payOf_81 : decode cX8_payOf 81 = .ok (.iand, 1) := by decide +kernel
theorem dX8_payOf_82 : decode cX8_payOf 82 = .ok (.ifCond .eq 20, 3) := by decide +kernel
theorem dX8_payOf_85 : decode cX8_payOf 85 = .ok (.aload_n 0, 1) := by decide +kernel
theorem dX8_payOf_86 : decode cX8_payOf 86 = .ok (.getfield 120, 3) := by decide +kernel
theorem dX8_payOf_89 : decode cX8_payOf 89 = .ok (.iload 4, 2) := by decide +kernel
theorem dX8_payOf_91 : decode cX8_payOf 91 = .ok (.iaload, 1) := by decide +kernel
theorem dX8_payOf_92 : decode cX8_payOf 92 = .ok (.aload_n 0, 1) := by decide +kernel
theorem dX8_payOf_93 : decode cX8_payOf 93 = .ok (.getfield 53, 3) := by decide +kernel
theorem dX8_payOf_96 : decode cX8_payOf 96 = .ok (.iload 5, 2) := by decide +kernel
theorem dX8_payOf_98 : decode cX8_payOf 98 = .ok (.iaload, 1) := by decide +kernel
end
section
theorem dX8_payOf_99 : decode cX8_payOf 99 = .ok (.if_icmp .ge 5, 3) := by decide +kernel
theorem dX8_payOf_102 : decode cX8_payOf 102 = .ok (.iconst (-1), 1) := by decide +kernel
theorem dX8_payOf_103 : decode cX8_payOf 103 = .ok (.ireturn, 1) := by decide +kernel
theorem dX8_payOf_104 : decode cX8_payOf 104 = .ok (.aload_n 0, 1) := by decide +kernel
theorem dX8_payOf_105 : decode cX8_payOf 105 = .ok (.getfield 120, 3) := by decide +kernel
theorem dX8_payOf_108 : decode cX8_payOf 108 = .ok (.iload 4, 2) := by decide +kernel
theorem dX8_payOf_110 : decode cX8_payOf 110 = .ok (.dup2, 1) := by decide +kernel
theorem dX8_payOf_111 : decode cX8_payOf 111 = .ok (.iaload, 1) := by decide +kernel
theorem dX8_payOf_112 : decode cX8_payOf 112 = .ok (.aload_n 0, 1) := by decide +kernel
theorem dX8_payOf_113 : decode cX8_payOf 113 = .ok (.getfield 53, 3) := by decide +kernel
theorem dX8_payOf_116 : decode cX8_payOf 116 = .ok (.iload 5, 2) := by decide +kernel
theorem dX8_payOf_118 : decode cX8_payOf 118 = .ok (.iaload, 1) := by decide +kernel
theorem dX8_payOf_119 : decode cX8_payOf 119 = .ok (.isub, 1) := by decide +kernel
theorem dX8_payOf_120 : decode cX8_payOf 120 = .ok (.iastore, 1) := by decide +kernel
theorem dX8_payOf_121 : decode cX8_payOf 121 = .ok (.iload_n 2, 1) := by decide +kernel
theorem dX8_payOf_122 : decode cX8_payOf 122 = .ok (.aload_n 0, 1) := by decide +kernel
theorem dX8_payOf_123 : decode cX8_payOf 123 = .ok (.getfield 53, 3) := by decide +kernel
theorem dX8_payOf_126 : decode cX8_payOf 126 = .ok (.iload 5, 2) := by decide +kernel
theorem dX8_payOf_128 : decode cX8_payOf 128 = .ok (.iaload, 1) := by decide +kernel
theorem dX8_payOf_129 : decode cX8_payOf 129 = .ok (.aload_n 0, 1) := by decide +kernel
theorem dX8_payOf_130 : decode cX8_payOf 130 = .ok (.getfield 96, 3) := by decide +kernel
theorem dX8_payOf_133 : decode cX8_payOf 133 = .ok (.iload 4, 2) := by decide +kernel
theorem dX8_payOf_135 : decode cX8_payOf 135 = .ok (.iaload, 1) := by decide +kernel
theorem dX8_payOf_136 : decode cX8_payOf 136 = .ok (.imul, 1) := by decide +kernel
theorem dX8_payOf_137 : decode cX8_payOf 137 = .ok (.iadd, 1) := by decide +kernel
theorem dX8_payOf_138 : decode cX8_payOf 138 = .ok (.istore_n 2, 1) := by decide +kernel
theorem dX8_payOf_139 : decode cX8_payOf 139 = .ok (.iinc 3 1, 3) := by decide +kernel
theorem dX8_payOf_142 : decode cX8_payOf 142 = .ok (.goto (-110), 3) := by decide +kernel
theorem dX8_payOf_145 : decode cX8_payOf 145 = .ok (.iload_n 2, 1) := by decide +kernel
theorem dX8_payOf_146 : decode cX8_payOf 146 = .ok (.ireturn, 1) := by decide +kernel
theorem dX8_findSale_0 : decode cX8_findSale 0 = .ok (.aload_n 0, 1) := by decide +kernel
theorem dX8_findSale_1 : decode cX8_findSale 1 = .ok (.iconst 0, 1) := by decide +kernel
theorem dX8_findSale_2 : decode cX8_findSale 2 = .ok (.putfield 195, 3) := by decide +kernel
theorem dX8_findSale_5 : decode cX8_findSale 5 = .ok (.iconst 1, 1) := by decide +kernel
theorem dX8_findSale_6 : decode cX8_findSale 6 = .ok (.istore_n 1, 1) := by decide +kernel
theorem dX8_findSale_7 : decode cX8_findSale 7 = .ok (.iconst 0, 1) := by decide +kernel
theorem dX8_findSale_8 : decode cX8_findSale 8 = .ok (.istore_n 2, 1) := by decide +kernel
theorem dX8_findSale_9 : decode cX8_findSale 9 = .ok (.iload_n 2, 1) := by decide +kernel
theorem dX8_findSale_10 : decode cX8_findSale 10 = .ok (.aload_n 0, 1) := by decide +kernel
theorem dX8_findSale_11 : decode cX8_findSale 11 = .ok (.getfield 189, 3) := by decide +kernel
theorem dX8_findSale_14 : decode cX8_findSale 14 = .ok (.if_icmp .ge 57, 3) := by decide +kernel
theorem dX8_findSale_17 : decode cX8_findSale 17 = .ok (.aload_n 0, 1) := by decide +kernel
theorem dX8_findSale_18 : decode cX8_findSale 18 = .ok (.getfield 195, 3) := by decide +kernel
theorem dX8_findSale_21 : decode cX8_findSale 21 = .ok (.bipush 8, 2) := by decide +kernel
theorem dX8_findSale_23 : decode cX8_findSale 23 = .ok (.if_icmp .ge 48, 3) := by decide +kernel
theorem dX8_findSale_26 : decode cX8_findSale 26 = .ok (.aload_n 0, 1) := by decide +kernel
theorem dX8_findSale_27 : decode cX8_findSale 27 = .ok (.getfield 68, 3) := by decide +kernel
theorem dX8_findSale_30 : decode cX8_findSale 30 = .ok (.iload_n 2, 1) := by decide +kernel
theorem dX8_findSale_31 : decode cX8_findSale 31 = .ok (.iaload, 1) := by decide +kernel
theorem dX8_findSale_32 : decode cX8_findSale 32 = .ok (.iconst (-1), 1) := by decide +kernel
theorem dX8_findSale_33 : decode cX8_findSale 33 = .ok (.if_icmp .ne 32, 3) := by decide +kernel
theorem dX8_findSale_36 : decode cX8_findSale 36 = .ok (.aload_n 0, 1) := by decide +kernel
theorem dX8_findSale_37 : decode cX8_findSale 37 = .ok (.getfield 117, 3) := by decide +kernel
theorem dX8_findSale_40 : decode cX8_findSale 40 = .ok (.aload_n 0, 1) := by decide +kernel
theorem dX8_findSale_41 : decode cX8_findSale 41 = .ok (.getfield 195, 3) := by decide +kernel
theorem dX8_findSale_44 : decode cX8_findSale 44 = .ok (.iload_n 2, 1) := by decide +kernel
theorem dX8_findSale_45 : decode cX8_findSale 45 = .ok (.iastore, 1) := by decide +kernel
theorem dX8_findSale_46 : decode cX8_findSale 46 = .ok (.aload_n 0, 1) := by decide +kernel
theorem dX8_findSale_47 : decode cX8_findSale 47 = .ok (.dup, 1) := by decide +kernel
theorem dX8_findSale_48 : decode cX8_findSale 48 = .ok (.getfield 195, 3) := by decide +kernel
theorem dX8_findSale_51 : decode cX8_findSale 51 = .ok (.iconst 1, 1) := by decide +kernel
theorem dX8_findSale_52 : decode cX8_findSale 52 = .ok (.iadd, 1) := by decide +kernel
theorem dX8_findSale_53 : decode cX8_findSale 53 = .ok (.putfield 195, 3) := by decide +kernel
theorem dX8_findSale_56 : decode cX8_findSale 56 = .ok (.iload_n 1, 1) := by decide +kernel
theorem dX8_findSale_57 : decode cX8_findSale 57 = .ok (.aload_n 0, 1) := by decide +kernel
theorem dX8_findSale_58 : decode cX8_findSale 58 = .ok (.getfield 192, 3) := by decide +kernel
theorem dX8_findSale_61 : decode cX8_findSale 61 = .ok (.iconst 1, 1) := by decide +kernel
theorem dX8_findSale_62 : decode cX8_findSale 62 = .ok (.iadd, 1) := by decide +kernel
theorem dX8_findSale_63 : decode cX8_findSale 63 = .ok (.imul, 1) := by decide +kernel
theorem dX8_findSale_64 : decode cX8_findSale 64 = .ok (.istore_n 1, 1) := by decide +kernel
theorem dX8_findSale_65 : decode cX8_findSale 65 = .ok (.iinc 2 1, 3) := by decide +kernel
theorem dX8_findSale_68 : decode cX8_findSale 68 = .ok (.goto (-59), 3) := by decide +kernel
theorem dX8_findSale_71 : decode cX8_findSale 71 = .ok (.iconst (-1), 1) := by decide +kernel
theorem dX8_findSale_72 : decode cX8_findSale 72 = .ok (.istore_n 2, 1) := by decide +kernel
theorem dX8_findSale_73 : decode cX8_findSale 73 = .ok (.iconst 0, 1) := by decide +kernel
theorem dX8_findSale_74 : decode cX8_findSale 74 = .ok (.istore_n 3, 1) := by decide +kernel
theorem dX8_findSale_75 : decode cX8_findSale 75 = .ok (.iload_n 3, 1) := by decide +kernel
theorem dX8_findSale_76 : decode cX8_findSale 76 = .ok (.iload_n 1, 1) := by decide +kernel
theorem dX8_findSale_77 : decode cX8_findSale 77 = .ok (.if_icmp .ge 30, 3) := by decide +kernel
theorem dX8_findSale_80 : decode cX8_findSale 80 = .ok (.aload_n 0, 1) := by decide +kernel
theorem dX8_findSale_81 : decode cX8_findSale 81 = .ok (.iload_n 3, 1) := by decide +kernel
theorem dX8_findSale_82 : decode cX8_findSale 82 = .ok (.invokevirtual 202, 3) := by decide +kernel
theorem dX8_findSale_85 : decode cX8_findSale 85 = .ok (.istore 4, 2) := by decide +kernel
theorem dX8_findSale_87 : decode cX8_findSale 87 = .ok (.iload 4, 2) := by decide +kernel
theorem dX8_findSale_89 : decode cX8_findSale 89 = .ok (.iload_n 2, 1) := by decide +kernel
theorem dX8_findSale_90 : decode cX8_findSale 90 = .ok (.if_icmp .le 11, 3) := by decide +kernel
theorem dX8_findSale_93 : decode cX8_findSale 93 = .ok (.iload 4, 2) := by decide +kernel
theorem dX8_findSale_95 : decode cX8_findSale 95 = .ok (.istore_n 2, 1) := by decide +kernel
theorem dX8_findSale_96 : decode cX8_findSale 96 = .ok (.aload_n 0, 1) := by decide +kernel
theorem dX8_findSale_97 : decode cX8_findSale 97 = .ok (.iload_n 3, 1) := by decide +kernel
theorem dX8_findSale_98 : decode cX8_findSale 98 = .ok (.putfield 206, 3) := by decide +kernel
theorem dX8_findSale_101 : decode cX8_findSale 101 = .ok (.iinc 3 1, 3) := by decide +kernel
theorem dX8_findSale_104 : decode cX8_findSale 104 = .ok (.goto (-29), 3) := by decide +kernel
theorem dX8_findSale_107 : decode cX8_findSale 107 = .ok (.iload_n 2, 1) := by decide +kernel
theorem dX8_findSale_108 : decode cX8_findSale 108 = .ok (.ireturn, 1) := by decide +kernel
theorem dX8_sale_0 : decode cX8_sale 0 = .ok (.aload_n 0, 1) := by decide +kernel
theorem dX8_sale_1 : decode cX8_sale 1 = .ok (.invokevirtual 209, 3) := by decide +kernel
theorem dX8_sale_4 : decode cX8_sale 4 = .ok (.ireturn, 1) := by decide +kernel
theorem dX8_sell_0 : decode cX8_sell 0 = .ok (.aload_n 0, 1) := by decide +kernel
theorem dX8_sell_1 : decode cX8_sell 1 = .ok (.invokevirtual 209, 3) := by decide +kernel
theorem dX8_sell_4 : decode cX8_sell 4 = .ok (.istore_n 1, 1) := by decide +kernel
theorem dX8_sell_5 : decode cX8_sell 5 = .ok (.iconst 0, 1) := by decide +kernel
theorem dX8_sell_6 : decode cX8_sell 6 = .ok (.istore_n 2, 1) := by decide +kernel
theorem dX8_sell_7 : decode cX8_sell 7 = .ok (.iconst 0, 1) := by decide +kernel
theorem dX8_sell_8 : decode cX8_sell 8 = .ok (.istore_n 3, 1) := by decide +kernel
theorem dX8_sell_9 : decode cX8_sell 9 = .ok (.iload_n 3, 1) := by decide +kernel
theorem dX8_sell_10 : decode cX8_sell 10 = .ok (.aload_n 0, 1) := by decide +kernel
theorem dX8_sell_11 : decode cX8_sell 11 = .ok (.getfield 195, 3) := by decide +kernel
theorem dX8_sell_14 : decode cX8_sell 14 = .ok (.if_icmp .ge 66, 3) := by decide +kernel
theorem dX8_sell_17 : decode cX8_sell 17 = .ok (.aload_n 0, 1) := by decide +kernel
theorem dX8_sell_18 : decode cX8_sell 18 = .ok (.aload_n 0, 1) := by decide +kernel
theorem dX8_sell_19 : decode cX8_sell 19 = .ok (.getfield 206, 3) := by decide +kernel
theorem dX8_sell_22 : decode cX8_sell 22 = .ok (.iload_n 3, 1) := by decide +kernel
theorem dX8_sell_23 : decode cX8_sell 23 = .ok (.invokevirtual 198, 3) := by decide +kernel
theorem dX8_sell_26 : decode cX8_sell 26 = .ok (.istore 4, 2) := by decide +kernel
theorem dX8_sell_28 : decode cX8_sell 28 = .ok (.iload 4, 2) := by decide +kernel
theorem dX8_sell_30 : decode cX8_sell 30 = .ok (.aload_n 0, 1) := by decide +kernel
theorem dX8_sell_31 : decode cX8_sell 31 = .ok (.getfield 192, 3) := by decide +kernel
theorem dX8_sell_34 : decode cX8_sell 34 = .ok (.if_icmp .ge 40, 3) := by decide +kernel
theorem dX8_sell_37 : decode cX8_sell 37 = .ok (.aload_n 0, 1) := by decide +kernel
theorem dX8_sell_38 : decode cX8_sell 38 = .ok (.getfield 68, 3) := by decide +kernel
theorem dX8_sell_41 : decode cX8_sell 41 = .ok (.aload_n 0, 1) := by decide +kernel
theorem dX8_sell_42 : decode cX8_sell 42 = .ok (.getfield 117, 3) := by decide +kernel
theorem dX8_sell_45 : decode cX8_sell 45 = .ok (.iload_n 3, 1) := by decide +kernel
theorem dX8_sell_46 : decode cX8_sell 46 = .ok (.iaload, 1) := by decide +kernel
theorem dX8_sell_47 : decode cX8_sell 47 = .ok (.iload 4, 2) := by decide +kernel
theorem dX8_sell_49 : decode cX8_sell 49 = .ok (.iastore, 1) := by decide +kernel
theorem dX8_sell_50 : decode cX8_sell 50 = .ok (.aload_n 0, 1) := by decide +kernel
theorem dX8_sell_51 : decode cX8_sell 51 = .ok (.getfield 93, 3) := by decide +kernel
theorem dX8_sell_54 : decode cX8_sell 54 = .ok (.iload 4, 2) := by decide +kernel
theorem dX8_sell_56 : decode cX8_sell 56 = .ok (.dup2, 1) := by decide +kernel
theorem dX8_sell_57 : decode cX8_sell 57 = .ok (.iaload, 1) := by decide +kernel
theorem dX8_sell_58 : decode cX8_sell 58 = .ok (.aload_n 0, 1) := by decide +kernel
theorem dX8_sell_59 : decode cX8_sell 59 = .ok (.getfield 53, 3) := by decide +kernel
theorem dX8_sell_62 : decode cX8_sell 62 = .ok (.aload_n 0, 1) := by decide +kernel
theorem dX8_sell_63 : decode cX8_sell 63 = .ok (.getfield 117, 3) := by decide +kernel
theorem dX8_sell_66 : decode cX8_sell 66 = .ok (.iload_n 3, 1) := by decide +kernel
theorem dX8_sell_67 : decode cX8_sell 67 = .ok (.iaload, 1) := by decide +kernel
theorem dX8_sell_68 : decode cX8_sell 68 = .ok (.iaload, 1) := by decide +kernel
theorem dX8_sell_69 : decode cX8_sell 69 = .ok (.isub, 1) := by decide +kernel
theorem dX8_sell_70 : decode cX8_sell 70 = .ok (.iastore, 1) := by decide +kernel
theorem dX8_sell_71 : decode cX8_sell 71 = .ok (.iinc 2 1, 3) := by decide +kernel
theorem dX8_sell_74 : decode cX8_sell 74 = .ok (.iinc 3 1, 3) := by decide +kernel
theorem dX8_sell_77 : decode cX8_sell 77 = .ok (.goto (-68), 3) := by decide +kernel
theorem dX8_sell_80 : decode cX8_sell 80 = .ok (.aload_n 0, 1) := by decide +kernel
theorem dX8_sell_81 : decode cX8_sell 81 = .ok (.dup, 1) := by decide +kernel
theorem dX8_sell_82 : decode cX8_sell 82 = .ok (.getfield 212, 3) := by decide +kernel
theorem dX8_sell_85 : decode cX8_sell 85 = .ok (.iload_n 1, 1) := by decide +kernel
theorem dX8_sell_86 : decode cX8_sell 86 = .ok (.iadd, 1) := by decide +kernel
theorem dX8_sell_87 : decode cX8_sell 87 = .ok (.putfield 212, 3) := by decide +kernel
theorem dX8_sell_90 : decode cX8_sell 90 = .ok (.iload_n 2, 1) := by decide +kernel
theorem dX8_sell_91 : decode cX8_sell 91 = .ok (.ireturn, 1) := by decide +kernel
theorem dX8_month_0 : decode cX8_month 0 = .ok (.iload_n 1, 1) := by decide +kernel
theorem dX8_month_1 : decode cX8_month 1 = .ok (.iconst 0, 1) := by decide +kernel
theorem dX8_month_2 : decode cX8_month 2 = .ok (.bipush 11, 2) := by decide +kernel
theorem dX8_month_4 : decode cX8_month 4 = .ok (.invokestatic 123, 3) := by decide +kernel
theorem dX8_month_7 : decode cX8_month 7 = .ok (.ifCond .eq 23, 3) := by decide +kernel
theorem dX8_month_10 : decode cX8_month 10 = .ok (.iload_n 2, 1) := by decide +kernel
theorem dX8_month_11 : decode cX8_month 11 = .ok (.iconst 0, 1) := by decide +kernel
theorem dX8_month_12 : decode cX8_month 12 = .ok (.iconst 4, 1) := by decide +kernel
theorem dX8_month_13 : decode cX8_month 13 = .ok (.invokestatic 123, 3) := by decide +kernel
theorem dX8_month_16 : decode cX8_month 16 = .ok (.ifCond .eq 14, 3) := by decide +kernel
theorem dX8_month_19 : decode cX8_month 19 = .ok (.iload_n 3, 1) := by decide +kernel
theorem dX8_month_20 : decode cX8_month 20 = .ok (.iconst 0, 1) := by decide +kernel
theorem dX8_month_21 : decode cX8_month 21 = .ok (.sipush 1000, 3) := by decide +kernel
theorem dX8_month_24 : decode cX8_month 24 = .ok (.invokestatic 123, 3) := by decide +kernel
theorem dX8_month_27 : decode cX8_month 27 = .ok (.ifCond .ne 6, 3) := by decide +kernel
theorem dX8_month_30 : decode cX8_month 30 = .ok (.bipush (-2), 2) := by decide +kernel
theorem dX8_month_32 : decode cX8_month 32 = .ok (.ireturn, 1) := by decide +kernel
theorem dX8_month_33 : decode cX8_month 33 = .ok (.aload_n 0, 1) := by decide +kernel
theorem dX8_month_34 : decode cX8_month 34 = .ok (.getfield 99, 3) := by decide +kernel
theorem dX8_month_37 : decode cX8_month 37 = .ok (.iload_n 1, 1) := by decide +kernel
theorem dX8_month_38 : decode cX8_month 38 = .ok (.iload_n 2, 1) := by decide +kernel
theorem dX8_month_39 : decode cX8_month 39 = .ok (.iastore, 1) := by decide +kernel
theorem dX8_month_40 : decode cX8_month 40 = .ok (.aload_n 0, 1) := by decide +kernel
theorem dX8_month_41 : decode cX8_month 41 = .ok (.getfield 102, 3) := by decide +kernel
theorem dX8_month_44 : decode cX8_month 44 = .ok (.iload_n 1, 1) := by decide +kernel
theorem dX8_month_45 : decode cX8_month 45 = .ok (.iload_n 3, 1) := by decide +kernel
theorem dX8_month_46 : decode cX8_month 46 = .ok (.iastore, 1) := by decide +kernel
theorem dX8_month_47 : decode cX8_month 47 = .ok (.iconst 1, 1) := by decide +kernel
theorem dX8_month_48 : decode cX8_month 48 = .ok (.ireturn, 1) := by decide +kernel
theorem dX8_pace_0 : decode cX8_pace 0 = .ok (.iload_n 1, 1) := by decide +kernel
theorem dX8_pace_1 : decode cX8_pace 1 = .ok (.iconst 0, 1) := by decide +kernel
theorem dX8_pace_2 : decode cX8_pace 2 = .ok (.iconst 4, 1) := by decide +kernel
theorem dX8_pace_3 : decode cX8_pace 3 = .ok (.invokestatic 123, 3) := by decide +kernel
theorem dX8_pace_6 : decode cX8_pace 6 = .ok (.ifCond .eq 37, 3) := by decide +kernel
theorem dX8_pace_9 : decode cX8_pace 9 = .ok (.iload_n 2, 1) := by decide +kernel
theorem dX8_pace_10 : decode cX8_pace 10 = .ok (.iconst 0, 1) := by decide +kernel
theorem dX8_pace_11 : decode cX8_pace 11 = .ok (.sipush 1000, 3) := by decide +kernel
theorem dX8_pace_14 : decode cX8_pace 14 = .ok (.invokestatic 123, 3) := by decide +kernel
theorem dX8_pace_17 : decode cX8_pace 17 = .ok (.ifCond .eq 26, 3) := by decide +kernel
theorem dX8_pace_20 : decode cX8_pace 20 = .ok (.iload_n 3, 1) := by decide +kernel
theorem dX8_pace_21 : decode cX8_pace 21 = .ok (.iconst 0, 1) := by decide +kernel
theorem dX8_pace_22 : decode cX8_pace 22 = .ok (.sipush 1000, 3) := by decide +kernel
theorem dX8_pace_25 : decode cX8_pace 25 = .ok (.invokestatic 123, 3) := by decide +kernel
theorem dX8_pace_28 : decode cX8_pace 28 = .ok (.ifCond .eq 15, 3) := by decide +kernel
theorem dX8_pace_31 : decode cX8_pace 31 = .ok (.iload 4, 2) := by decide +kernel
theorem dX8_pace_33 : decode cX8_pace 33 = .ok (.iconst 0, 1) := by decide +kernel
theorem dX8_pace_34 : decode cX8_pace 34 = .ok (.sipush 1000, 3) := by decide +kernel
theorem dX8_pace_37 : decode cX8_pace 37 = .ok (.invokestatic 123, 3) := by decide +kernel
theorem dX8_pace_40 : decode cX8_pace 40 = .ok (.ifCond .ne 6, 3) := by decide +kernel
theorem dX8_pace_43 : decode cX8_pace 43 = .ok (.bipush (-2), 2) := by decide +kernel
theorem dX8_pace_45 : decode cX8_pace 45 = .ok (.ireturn, 1) := by decide +kernel
theorem dX8_pace_46 : decode cX8_pace 46 = .ok (.aload_n 0, 1) := by decide +kernel
theorem dX8_pace_47 : decode cX8_pace 47 = .ok (.getfield 105, 3) := by decide +kernel
theorem dX8_pace_50 : decode cX8_pace 50 = .ok (.iload_n 1, 1) := by decide +kernel
theorem dX8_pace_51 : decode cX8_pace 51 = .ok (.iload_n 2, 1) := by decide +kernel
theorem dX8_pace_52 : decode cX8_pace 52 = .ok (.iastore, 1) := by decide +kernel
theorem dX8_pace_53 : decode cX8_pace 53 = .ok (.aload_n 0, 1) := by decide +kernel
theorem dX8_pace_54 : decode cX8_pace 54 = .ok (.getfield 108, 3) := by decide +kernel
theorem dX8_pace_57 : decode cX8_pace 57 = .ok (.iload_n 1, 1) := by decide +kernel
theorem dX8_pace_58 : decode cX8_pace 58 = .ok (.iload_n 3, 1) := by decide +kernel
theorem dX8_pace_59 : decode cX8_pace 59 = .ok (.iastore, 1) := by decide +kernel
theorem dX8_pace_60 : decode cX8_pace 60 = .ok (.aload_n 0, 1) := by decide +kernel
theorem dX8_pace_61 : decode cX8_pace 61 = .ok (.getfield 111, 3) := by decide +kernel
theorem dX8_pace_64 : decode cX8_pace 64 = .ok (.iload_n 1, 1) := by decide +kernel
theorem dX8_pace_65 : decode cX8_pace 65 = .ok (.iload 4, 2) := by decide +kernel
theorem dX8_pace_67 : decode cX8_pace 67 = .ok (.iastore, 1) := by decide +kernel
theorem dX8_pace_68 : decode cX8_pace 68 = .ok (.iconst 1, 1) := by decide +kernel
theorem dX8_pace_69 : decode cX8_pace 69 = .ok (.ireturn, 1) := by decide +kernel
theorem dX8_ironOf_0 : decode cX8_ironOf 0 = .ok (.iload_n 2, 1) := by decide +kernel
theorem dX8_ironOf_1 : decode cX8_ironOf 1 = .ok (.istore 7, 2) := by decide +kernel
theorem dX8_ironOf_3 : decode cX8_ironOf 3 = .ok (.iconst 0, 1) := by decide +kernel
theorem dX8_ironOf_4 : decode cX8_ironOf 4 = .ok (.istore 8, 2) := by decide +kernel
theorem dX8_ironOf_6 : decode cX8_ironOf 6 = .ok (.iload 6, 2) := by decide +kernel
theorem dX8_ironOf_8 : decode cX8_ironOf 8 = .ok (.istore 9, 2) := by decide +kernel
theorem dX8_ironOf_10 : decode cX8_ironOf 10 = .ok (.iconst 0, 1) := by decide +kernel
theorem dX8_ironOf_11 : decode cX8_ironOf 11 = .ok (.istore 10, 2) := by decide +kernel
theorem dX8_ironOf_13 : decode cX8_ironOf 13 = .ok (.iconst 0, 1) := by decide +kernel
theorem dX8_ironOf_14 : decode cX8_ironOf 14 = .ok (.istore 11, 2) := by decide +kernel
theorem dX8_ironOf_16 : decode cX8_ironOf 16 = .ok (.iload 11, 2) := by decide +kernel
theorem dX8_ironOf_18 : decode cX8_ironOf 18 = .ok (.iload 4, 2) := by decide +kernel
theorem dX8_ironOf_20 : decode cX8_ironOf 20 = .ok (.if_icmp .ge 113, 3) := by decide +kernel
theorem dX8_ironOf_23 : decode cX8_ironOf 23 = .ok (.iload 7, 2) := by decide +kernel
theorem dX8_ironOf_25 : decode cX8_ironOf 25 = .ok (.iconst 5, 1) := by decide +kernel
theorem dX8_ironOf_26 : decode cX8_ironOf 26 = .ok (.idiv, 1) := by decide +kernel
theorem dX8_ironOf_27 : decode cX8_ironOf 27 = .ok (.istore 7, 2) := by decide +kernel
theorem dX8_ironOf_29 : decode cX8_ironOf 29 = .ok (.iload_n 1, 1) := by decide +kernel
theorem dX8_ironOf_30 : decode cX8_ironOf 30 = .ok (.iload 7, 2) := by decide +kernel
theorem dX8_ironOf_32 : decode cX8_ironOf 32 = .ok (.idiv, 1) := by decide +kernel
theorem dX8_ironOf_33 : decode cX8_ironOf 33 = .ok (.iconst 5, 1) := by decide +kernel
theorem dX8_ironOf_34 : decode cX8_ironOf 34 = .ok (.irem, 1) := by decide +kernel
theorem dX8_ironOf_35 : decode cX8_ironOf 35 = .ok (.istore 12, 2) := by decide +kernel
theorem dX8_ironOf_37 : decode cX8_ironOf 37 = .ok (.iload_n 3, 1) := by decide +kernel
theorem dX8_ironOf_38 : decode cX8_ironOf 38 = .ok (.iload 11, 2) := by decide +kernel
theorem dX8_ironOf_40 : decode cX8_ironOf 40 = .ok (.iadd, 1) := by decide +kernel
theorem dX8_ironOf_41 : decode cX8_ironOf 41 = .ok (.bipush 12, 2) := by decide +kernel
theorem dX8_ironOf_43 : decode cX8_ironOf 43 = .ok (.irem, 1) := by decide +kernel
theorem dX8_ironOf_44 : decode cX8_ironOf 44 = .ok (.istore 13, 2) := by decide +kernel
theorem dX8_ironOf_46 : decode cX8_ironOf 46 = .ok (.iload 9, 2) := by decide +kernel
theorem dX8_ironOf_48 : decode cX8_ironOf 48 = .ok (.aload_n 0, 1) := by decide +kernel
theorem dX8_ironOf_49 : decode cX8_ironOf 49 = .ok (.getfield 102, 3) := by decide +kernel
theorem dX8_ironOf_52 : decode cX8_ironOf 52 = .ok (.iload 13, 2) := by decide +kernel
theorem dX8_ironOf_54 : decode cX8_ironOf 54 = .ok (.iaload, 1) := by decide +kernel
theorem dX8_ironOf_55 : decode cX8_ironOf 55 = .ok (.iadd, 1) := by decide +kernel
theorem dX8_ironOf_56 : decode cX8_ironOf 56 = .ok (.istore 9, 2) := by decide +kernel
theorem dX8_ironOf_58 : decode cX8_ironOf 58 = .ok (.iload 8, 2) := by decide +kernel
theorem dX8_ironOf_60 : decode cX8_ironOf 60 = .ok (.aload_n 0, 1) := by decide +kernel
theorem dX8_ironOf_61 : decode cX8_ironOf 61 = .ok (.getfield 108, 3) := by decide +kernel
theorem dX8_ironOf_64 : decode cX8_ironOf 64 = .ok (.iload 12, 2) := by decide +kernel
theorem dX8_ironOf_66 : decode cX8_ironOf 66 = .ok (.iaload, 1) := by decide +kernel
theorem dX8_ironOf_67 : decode cX8_ironOf 67 = .ok (.iadd, 1) := by decide +kernel
theorem dX8_ironOf_68 : decode cX8_ironOf 68 = .ok (.istore 8, 2) := by decide +kernel
theorem dX8_ironOf_70 : decode cX8_ironOf 70 = .ok (.iload 12, 2) := by decide +kernel
theorem dX8_ironOf_72 : decode cX8_ironOf 72 = .ok (.aload_n 0, 1) := by decide +kernel
theorem dX8_ironOf_73 : decode cX8_ironOf 73 = .ok (.getfield 99, 3) := by decide +kernel
theorem dX8_ironOf_76 : decode cX8_ironOf 76 = .ok (.iload 13, 2) := by decide +kernel
theorem dX8_ironOf_78 : decode cX8_ironOf 78 = .ok (.iaload, 1) := by decide +kernel
theorem dX8_ironOf_79 : decode cX8_ironOf 79 = .ok (.if_icmp .gt 22, 3) := by decide +kernel
theorem dX8_ironOf_82 : decode cX8_ironOf 82 = .ok (.iload 9, 2) := by decide +kernel
theorem dX8_ironOf_84 : decode cX8_ironOf 84 = .ok (.aload_n 0, 1) := by decide +kernel
theorem dX8_ironOf_85 : decode cX8_ironOf 85 = .ok (.getfield 111, 3) := by decide +kernel
theorem dX8_ironOf_88 : decode cX8_ironOf 88 = .ok (.iload 12, 2) := by decide +kernel
theorem dX8_ironOf_90 : decode cX8_ironOf 90 = .ok (.iaload, 1) := by decide +kernel
theorem dX8_ironOf_91 : decode cX8_ironOf 91 = .ok (.if_icmp .lt 10, 3) := by decide +kernel
theorem dX8_ironOf_94 : decode cX8_ironOf 94 = .ok (.iload 8, 2) := by decide +kernel
theorem dX8_ironOf_96 : decode cX8_ironOf 96 = .ok (.iload 5, 2) := by decide +kernel
theorem dX8_ironOf_98 : decode cX8_ironOf 98 = .ok (.if_icmp .le 5, 3) := by decide +kernel
theorem dX8_ironOf_101 : decode cX8_ironOf 101 = .ok (.iconst (-1), 1) := by decide +kernel
theorem dX8_ironOf_102 : decode cX8_ironOf 102 = .ok (.ireturn, 1) := by decide +kernel
theorem dX8_ironOf_103 : decode cX8_ironOf 103 = .ok (.iload 9, 2) := by decide +kernel
theorem dX8_ironOf_105 : decode cX8_ironOf 105 = .ok (.aload_n 0, 1) := by decide +kernel
theorem dX8_ironOf_106 : decode cX8_ironOf 106 = .ok (.getfield 111, 3) := by decide +kernel
theorem dX8_ironOf_109 : decode cX8_ironOf 109 = .ok (.iload 12, 2) := by decide +kernel
theorem dX8_ironOf_111 : decode cX8_ironOf 111 = .ok (.iaload, 1) := by decide +kernel
theorem dX8_ironOf_112 : decode cX8_ironOf 112 = .ok (.isub, 1) := by decide +kernel
theorem dX8_ironOf_113 : decode cX8_ironOf 113 = .ok (.istore 9, 2) := by decide +kernel
theorem dX8_ironOf_115 : decode cX8_ironOf 115 = .ok (.iload 10, 2) := by decide +kernel
theorem dX8_ironOf_117 : decode cX8_ironOf 117 = .ok (.aload_n 0, 1) := by decide +kernel
theorem dX8_ironOf_118 : decode cX8_ironOf 118 = .ok (.getfield 105, 3) := by decide +kernel
theorem dX8_ironOf_121 : decode cX8_ironOf 121 = .ok (.iload 12, 2) := by decide +kernel
theorem dX8_ironOf_123 : decode cX8_ironOf 123 = .ok (.iaload, 1) := by decide +kernel
theorem dX8_ironOf_124 : decode cX8_ironOf 124 = .ok (.iadd, 1) := by decide +kernel
theorem dX8_ironOf_125 : decode cX8_ironOf 125 = .ok (.istore 10, 2) := by decide +kernel
theorem dX8_ironOf_127 : decode cX8_ironOf 127 = .ok (.iinc 11 1, 3) := by decide +kernel
theorem dX8_ironOf_130 : decode cX8_ironOf 130 = .ok (.goto (-114), 3) := by decide +kernel
theorem dX8_ironOf_133 : decode cX8_ironOf 133 = .ok (.iload 10, 2) := by decide +kernel
theorem dX8_ironOf_135 : decode cX8_ironOf 135 = .ok (.ireturn, 1) := by decide +kernel
theorem dX8_plan_0 : decode cX8_plan 0 = .ok (.iload_n 1, 1) := by decide +kernel
theorem dX8_plan_1 : decode cX8_plan 1 = .ok (.iconst 0, 1) := by decide +kernel
theorem dX8_plan_2 : decode cX8_plan 2 = .ok (.bipush 11, 2) := by decide +kernel
theorem dX8_plan_4 : decode cX8_plan 4 = .ok (.invokestatic 123, 3) := by decide +kernel
theorem dX8_plan_7 : decode cX8_plan 7 = .ok (.ifCond .eq 36, 3) := by decide +kernel
theorem dX8_plan_10 : decode cX8_plan 10 = .ok (.iload_n 2, 1) := by decide +kernel
theorem dX8_plan_11 : decode cX8_plan 11 = .ok (.iconst 1, 1) := by decide +kernel
theorem dX8_plan_12 : decode cX8_plan 12 = .ok (.bipush 6, 2) := by decide +kernel
theorem dX8_plan_14 : decode cX8_plan 14 = .ok (.invokestatic 123, 3) := by decide +kernel
theorem dX8_plan_17 : decode cX8_plan 17 = .ok (.ifCond .eq 26, 3) := by decide +kernel
theorem dX8_plan_20 : decode cX8_plan 20 = .ok (.iload_n 3, 1) := by decide +kernel
theorem dX8_plan_21 : decode cX8_plan 21 = .ok (.iconst 0, 1) := by decide +kernel
theorem dX8_plan_22 : decode cX8_plan 22 = .ok (.sipush 10000, 3) := by decide +kernel
theorem dX8_plan_25 : decode cX8_plan 25 = .ok (.invokestatic 123, 3) := by decide +kernel
theorem dX8_plan_28 : decode cX8_plan 28 = .ok (.ifCond .eq 15, 3) := by decide +kernel
theorem dX8_plan_31 : decode cX8_plan 31 = .ok (.iload 4, 2) := by decide +kernel
theorem dX8_plan_33 : decode cX8_plan 33 = .ok (.iconst 0, 1) := by decide +kernel
theorem dX8_plan_34 : decode cX8_plan 34 = .ok (.sipush 10000, 3) := by decide +kernel
theorem dX8_plan_37 : decode cX8_plan 37 = .ok (.invokestatic 123, 3) := by decide +kernel
theorem dX8_plan_40 : decode cX8_plan 40 = .ok (.ifCond .ne 6, 3) := by decide +kernel
theorem dX8_plan_43 : decode cX8_plan 43 = .ok (.bipush (-2), 2) := by decide +kernel
theorem dX8_plan_45 : decode cX8_plan 45 = .ok (.ireturn, 1) := by decide +kernel
theorem dX8_plan_46 : decode cX8_plan 46 = .ok (.iconst 1, 1) := by decide +kernel
theorem dX8_plan_47 : decode cX8_plan 47 = .ok (.istore 5, 2) := by decide +kernel
theorem dX8_plan_49 : decode cX8_plan 49 = .ok (.iconst 0, 1) := by decide +kernel
theorem dX8_plan_50 : decode cX8_plan 50 = .ok (.istore 6, 2) := by decide +kernel
theorem dX8_plan_52 : decode cX8_plan 52 = .ok (.iload 6, 2) := by decide +kernel
theorem dX8_plan_54 : decode cX8_plan 54 = .ok (.iload_n 2, 1) := by decide +kernel
theorem dX8_plan_55 : decode cX8_plan 55 = .ok (.if_icmp .ge 15, 3) := by decide +kernel
theorem dX8_plan_58 : decode cX8_plan 58 = .ok (.iconst 5, 1) := by decide +kernel
theorem dX8_plan_59 : decode cX8_plan 59 = .ok (.iload 5, 2) := by decide +kernel
theorem dX8_plan_61 : decode cX8_plan 61 = .ok (.imul, 1) := by decide +kernel
theorem dX8_plan_62 : decode cX8_plan 62 = .ok (.istore 5, 2) := by decide +kernel
theorem dX8_plan_64 : decode cX8_plan 64 = .ok (.iinc 6 1, 3) := by decide +kernel
theorem dX8_plan_67 : decode cX8_plan 67 = .ok (.goto (-15), 3) := by decide +kernel
theorem dX8_plan_70 : decode cX8_plan 70 = .ok (.iconst (-1), 1) := by decide +kernel
theorem dX8_plan_71 : decode cX8_plan 71 = .ok (.istore 6, 2) := by decide +kernel
theorem dX8_plan_73 : decode cX8_plan 73 = .ok (.iconst 0, 1) := by decide +kernel
theorem dX8_plan_74 : decode cX8_plan 74 = .ok (.istore 7, 2) := by decide +kernel
theorem dX8_plan_76 : decode cX8_plan 76 = .ok (.iconst 0, 1) := by decide +kernel
theorem dX8_plan_77 : decode cX8_plan 77 = .ok (.istore 8, 2) := by decide +kernel
theorem dX8_plan_79 : decode cX8_plan 79 = .ok (.iload 8, 2) := by decide +kernel
theorem dX8_plan_81 : decode cX8_plan 81 = .ok (.iload 5, 2) := by decide +kernel
theorem dX8_plan_83 : decode cX8_plan 83 = .ok (.if_icmp .ge 39, 3) := by decide +kernel
theorem dX8_plan_86 : decode cX8_plan 86 = .ok (.aload_n 0, 1) := by decide +kernel
theorem dX8_plan_87 : decode cX8_plan 87 = .ok (.iload 8, 2) := by decide +kernel
theorem dX8_plan_89 : decode cX8_plan 89 = .ok (.iload 5, 2) := by decide +kernel
theorem dX8_plan_91 : decode cX8_plan 91 = .ok (.iload_n 1, 1) := by decide +kernel
theorem dX8_plan_92 : decode cX8_plan 92 = .ok (.iload_n 2, 1) := by decide +kernel
theorem dX8_plan_93 : decode cX8_plan 93 = .ok (.iload_n 3, 1) := by decide +kernel
theorem dX8_plan_94 : decode cX8_plan 94 = .ok (.iload 4, 2) := by decide +kernel
theorem dX8_plan_96 : decode cX8_plan 96 = .ok (.invokevirtual 215, 3) := by decide +kernel
theorem dX8_plan_99 : decode cX8_plan 99 = .ok (.istore 9, 2) := by decide +kernel
theorem dX8_plan_101 : decode cX8_plan 101 = .ok (.iload 9, 2) := by decide +kernel
theorem dX8_plan_103 : decode cX8_plan 103 = .ok (.iload 6, 2) := by decide +kernel
theorem dX8_plan_105 : decode cX8_plan 105 = .ok (.if_icmp .le 11, 3) := by decide +kernel
theorem dX8_plan_108 : decode cX8_plan 108 = .ok (.iload 9, 2) := by decide +kernel
theorem dX8_plan_110 : decode cX8_plan 110 = .ok (.istore 6, 2) := by decide +kernel
theorem dX8_plan_112 : decode cX8_plan 112 = .ok (.iload 8, 2) := by decide +kernel
theorem dX8_plan_114 : decode cX8_plan 114 = .ok (.istore 7, 2) := by decide +kernel
theorem dX8_plan_116 : decode cX8_plan 116 = .ok (.iinc 8 1, 3) := by decide +kernel
theorem dX8_plan_119 : decode cX8_plan 119 = .ok (.goto (-40), 3) := by decide +kernel
theorem dX8_plan_122 : decode cX8_plan 122 = .ok (.iload 6, 2) := by decide +kernel
theorem dX8_plan_124 : decode cX8_plan 124 = .ok (.iconst (-1), 1) := by decide +kernel
theorem dX8_plan_125 : decode cX8_plan 125 = .ok (.if_icmp .eq 41, 3) := by decide +kernel
theorem dX8_plan_128 : decode cX8_plan 128 = .ok (.aload_n 0, 1) := by decide +kernel
theorem dX8_plan_129 : decode cX8_plan 129 = .ok (.iload_n 2, 1) := by decide +kernel
theorem dX8_plan_130 : decode cX8_plan 130 = .ok (.putfield 219, 3) := by decide +kernel
theorem dX8_plan_133 : decode cX8_plan 133 = .ok (.iload_n 2, 1) := by decide +kernel
theorem dX8_plan_134 : decode cX8_plan 134 = .ok (.iconst 1, 1) := by decide +kernel
theorem dX8_plan_135 : decode cX8_plan 135 = .ok (.isub, 1) := by decide +kernel
theorem dX8_plan_136 : decode cX8_plan 136 = .ok (.istore 8, 2) := by decide +kernel
theorem dX8_plan_138 : decode cX8_plan 138 = .ok (.iload 8, 2) := by decide +kernel
theorem dX8_plan_140 : decode cX8_plan 140 = .ok (.ifCond .lt 26, 3) := by decide +kernel
theorem dX8_plan_143 : decode cX8_plan 143 = .ok (.aload_n 0, 1) := by decide +kernel
theorem dX8_plan_144 : decode cX8_plan 144 = .ok (.getfield 114, 3) := by decide +kernel
theorem dX8_plan_147 : decode cX8_plan 147 = .ok (.iload 8, 2) := by decide +kernel
theorem dX8_plan_149 : decode cX8_plan 149 = .ok (.iload 7, 2) := by decide +kernel
theorem dX8_plan_151 : decode cX8_plan 151 = .ok (.iconst 5, 1) := by decide +kernel
theorem dX8_plan_152 : decode cX8_plan 152 = .ok (.irem, 1) := by decide +kernel
theorem dX8_plan_153 : decode cX8_plan 153 = .ok (.iastore, 1) := by decide +kernel
theorem dX8_plan_154 : decode cX8_plan 154 = .ok (.iload 7, 2) := by decide +kernel
theorem dX8_plan_156 : decode cX8_plan 156 = .ok (.iconst 5, 1) := by decide +kernel
theorem dX8_plan_157 : decode cX8_plan 157 = .ok (.idiv, 1) := by decide +kernel
theorem dX8_plan_158 : decode cX8_plan 158 = .ok (.istore 7, 2) := by decide +kernel
theorem dX8_plan_160 : decode cX8_plan 160 = .ok (.iinc 8 (-1), 3) := by decide +kernel
theorem dX8_plan_163 : decode cX8_plan 163 = .ok (.goto (-25), 3) := by decide +kernel
theorem dX8_plan_166 : decode cX8_plan 166 = .ok (.iload 6, 2) := by decide +kernel
theorem dX8_plan_168 : decode cX8_plan 168 = .ok (.ireturn, 1) := by decide +kernel
theorem dX8_paceAt_0 : decode cX8_paceAt 0 = .ok (.iload_n 1, 1) := by decide +kernel
theorem dX8_paceAt_1 : decode cX8_paceAt 1 = .ok (.iconst 0, 1) := by decide +kernel
theorem dX8_paceAt_2 : decode cX8_paceAt 2 = .ok (.aload_n 0, 1) := by decide +kernel
theorem dX8_paceAt_3 : decode cX8_paceAt 3 = .ok (.getfield 219, 3) := by decide +kernel
theorem dX8_paceAt_6 : decode cX8_paceAt 6 = .ok (.iconst 1, 1) := by decide +kernel
theorem dX8_paceAt_7 : decode cX8_paceAt 7 = .ok (.isub, 1) := by decide +kernel
theorem dX8_paceAt_8 : decode cX8_paceAt 8 = .ok (.invokestatic 123, 3) := by decide +kernel
theorem dX8_paceAt_11 : decode cX8_paceAt 11 = .ok (.ifCond .eq 12, 3) := by decide +kernel
theorem dX8_paceAt_14 : decode cX8_paceAt 14 = .ok (.aload_n 0, 1) := by decide +kernel
theorem dX8_paceAt_15 : decode cX8_paceAt 15 = .ok (.getfield 114, 3) := by decide +kernel
theorem dX8_paceAt_18 : decode cX8_paceAt 18 = .ok (.iload_n 1, 1) := by decide +kernel
theorem dX8_paceAt_19 : decode cX8_paceAt 19 = .ok (.iaload, 1) := by decide +kernel
theorem dX8_paceAt_20 : decode cX8_paceAt 20 = .ok (.goto 4, 3) := by decide +kernel
theorem dX8_paceAt_23 : decode cX8_paceAt 23 = .ok (.iconst (-1), 1) := by decide +kernel
theorem dX8_paceAt_24 : decode cX8_paceAt 24 = .ok (.ireturn, 1) := by decide +kernel
theorem dX8_count_0 : decode cX8_count 0 = .ok (.iconst 0, 1) := by decide +kernel
theorem dX8_count_1 : decode cX8_count 1 = .ok (.istore_n 2, 1) := by decide +kernel
theorem dX8_count_2 : decode cX8_count 2 = .ok (.iload_n 1, 1) := by decide +kernel
theorem dX8_count_3 : decode cX8_count 3 = .ok (.tableswitch 98 0 5 #[37, 42, 47, 52, 57, 93], 37) := by decide +kernel
theorem dX8_count_40 : decode cX8_count 40 = .ok (.aload_n 0, 1) := by decide +kernel
theorem dX8_count_41 : decode cX8_count 41 = .ok (.getfield 127, 3) := by decide +kernel
theorem dX8_count_44 : decode cX8_count 44 = .ok (.ireturn, 1) := by decide +kernel
theorem dX8_count_45 : decode cX8_count 45 = .ok (.aload_n 0, 1) := by decide +kernel
theorem dX8_count_46 : decode cX8_count 46 = .ok (.getfield 189, 3) := by decide +kernel
theorem dX8_count_49 : decode cX8_count 49 = .ok (.ireturn, 1) := by decide +kernel
theorem dX8_count_50 : decode cX8_count 50 = .ok (.aload_n 0, 1) := by decide +kernel
theorem dX8_count_51 : decode cX8_count 51 = .ok (.getfield 156, 3) := by decide +kernel
theorem dX8_count_54 : decode cX8_count 54 = .ok (.ireturn, 1) := by decide +kernel
theorem dX8_count_55 : decode cX8_count 55 = .ok (.aload_n 0, 1) := by decide +kernel
theorem dX8_count_56 : decode cX8_count 56 = .ok (.getfield 192, 3) := by decide +kernel
theorem dX8_count_59 : decode cX8_count 59 = .ok (.ireturn, 1) := by decide +kernel
theorem dX8_count_60 : decode cX8_count 60 = .ok (.iconst 0, 1) := by decide +kernel
theorem dX8_count_61 : decode cX8_count 61 = .ok (.istore_n 3, 1) := by decide +kernel
theorem dX8_count_62 : decode cX8_count 62 = .ok (.iload_n 3, 1) := by decide +kernel
theorem dX8_count_63 : decode cX8_count 63 = .ok (.aload_n 0, 1) := by decide +kernel
theorem dX8_count_64 : decode cX8_count 64 = .ok (.getfield 189, 3) := by decide +kernel
theorem dX8_count_67 : decode cX8_count 67 = .ok (.if_icmp .ge 27, 3) := by decide +kernel
theorem dX8_count_70 : decode cX8_count 70 = .ok (.iload_n 2, 1) := by decide +kernel
theorem dX8_count_71 : decode cX8_count 71 = .ok (.aload_n 0, 1) := by decide +kernel
theorem dX8_count_72 : decode cX8_count 72 = .ok (.getfield 68, 3) := by decide +kernel
theorem dX8_count_75 : decode cX8_count 75 = .ok (.iload_n 3, 1) := by decide +kernel
theorem dX8_count_76 : decode cX8_count 76 = .ok (.iaload, 1) := by decide +kernel
theorem dX8_count_77 : decode cX8_count 77 = .ok (.iconst (-1), 1) := by decide +kernel
theorem dX8_count_78 : decode cX8_count 78 = .ok (.if_icmp .ne 7, 3) := by decide +kernel
theorem dX8_count_81 : decode cX8_count 81 = .ok (.iconst 0, 1) := by decide +kernel
theorem dX8_count_82 : decode cX8_count 82 = .ok (.goto 4, 3) := by decide +kernel
theorem dX8_count_85 : decode cX8_count 85 = .ok (.iconst 1, 1) := by decide +kernel
theorem dX8_count_86 : decode cX8_count 86 = .ok (.iadd, 1) := by decide +kernel
theorem dX8_count_87 : decode cX8_count 87 = .ok (.istore_n 2, 1) := by decide +kernel
theorem dX8_count_88 : decode cX8_count 88 = .ok (.iinc 3 1, 3) := by decide +kernel
theorem dX8_count_91 : decode cX8_count 91 = .ok (.goto (-29), 3) := by decide +kernel
theorem dX8_count_94 : decode cX8_count 94 = .ok (.iload_n 2, 1) := by decide +kernel
theorem dX8_count_95 : decode cX8_count 95 = .ok (.ireturn, 1) := by decide +kernel
theorem dX8_count_96 : decode cX8_count 96 = .ok (.aload_n 0, 1) := by decide +kernel
theorem dX8_count_97 : decode cX8_count 97 = .ok (.getfield 212, 3) := by decide +kernel
theorem dX8_count_100 : decode cX8_count 100 = .ok (.ireturn, 1) := by decide +kernel
theorem dX8_count_101 : decode cX8_count 101 = .ok (.bipush (-2), 2) := by decide +kernel
theorem dX8_count_103 : decode cX8_count 103 = .ok (.ireturn, 1) := by decide +kernel
theorem dX8_digest_0 : decode cX8_digest 0 = .ok (.ldc2_w 222, 3) := by decide +kernel
theorem dX8_digest_3 : decode cX8_digest 3 = .ok (.lstore_n 1, 1) := by decide +kernel
theorem dX8_digest_4 : decode cX8_digest 4 = .ok (.iconst 0, 1) := by decide +kernel
theorem dX8_digest_5 : decode cX8_digest 5 = .ok (.istore_n 3, 1) := by decide +kernel
theorem dX8_digest_6 : decode cX8_digest 6 = .ok (.iload_n 3, 1) := by decide +kernel
theorem dX8_digest_7 : decode cX8_digest 7 = .ok (.bipush 6, 2) := by decide +kernel
theorem dX8_digest_9 : decode cX8_digest 9 = .ok (.if_icmp .ge 22, 3) := by decide +kernel
theorem dX8_digest_12 : decode cX8_digest 12 = .ok (.ldc2_w 224, 3) := by decide +kernel
theorem dX8_digest_15 : decode cX8_digest 15 = .ok (.lload_n 1, 1) := by decide +kernel
theorem dX8_digest_16 : decode cX8_digest 16 = .ok (.lmul, 1) := by decide +kernel
theorem dX8_digest_17 : decode cX8_digest 17 = .ok (.aload_n 0, 1) := by decide +kernel
theorem dX8_digest_18 : decode cX8_digest 18 = .ok (.iload_n 3, 1) := by decide +kernel
theorem dX8_digest_19 : decode cX8_digest 19 = .ok (.invokevirtual 226, 3) := by decide +kernel
theorem dX8_digest_22 : decode cX8_digest 22 = .ok (.i2l, 1) := by decide +kernel
theorem dX8_digest_23 : decode cX8_digest 23 = .ok (.ladd, 1) := by decide +kernel
theorem dX8_digest_24 : decode cX8_digest 24 = .ok (.lstore_n 1, 1) := by decide +kernel
theorem dX8_digest_25 : decode cX8_digest 25 = .ok (.iinc 3 1, 3) := by decide +kernel
theorem dX8_digest_28 : decode cX8_digest 28 = .ok (.goto (-22), 3) := by decide +kernel
theorem dX8_digest_31 : decode cX8_digest 31 = .ok (.iconst 0, 1) := by decide +kernel
theorem dX8_digest_32 : decode cX8_digest 32 = .ok (.istore_n 3, 1) := by decide +kernel
theorem dX8_digest_33 : decode cX8_digest 33 = .ok (.iload_n 3, 1) := by decide +kernel
theorem dX8_digest_34 : decode cX8_digest 34 = .ok (.bipush 12, 2) := by decide +kernel
theorem dX8_digest_36 : decode cX8_digest 36 = .ok (.if_icmp .ge 22, 3) := by decide +kernel
theorem dX8_digest_39 : decode cX8_digest 39 = .ok (.ldc2_w 224, 3) := by decide +kernel
theorem dX8_digest_42 : decode cX8_digest 42 = .ok (.lload_n 1, 1) := by decide +kernel
theorem dX8_digest_43 : decode cX8_digest 43 = .ok (.lmul, 1) := by decide +kernel
theorem dX8_digest_44 : decode cX8_digest 44 = .ok (.aload_n 0, 1) := by decide +kernel
theorem dX8_digest_45 : decode cX8_digest 45 = .ok (.iload_n 3, 1) := by decide +kernel
theorem dX8_digest_46 : decode cX8_digest 46 = .ok (.invokevirtual 229, 3) := by decide +kernel
theorem dX8_digest_49 : decode cX8_digest 49 = .ok (.i2l, 1) := by decide +kernel
theorem dX8_digest_50 : decode cX8_digest 50 = .ok (.ladd, 1) := by decide +kernel
theorem dX8_digest_51 : decode cX8_digest 51 = .ok (.lstore_n 1, 1) := by decide +kernel
theorem dX8_digest_52 : decode cX8_digest 52 = .ok (.iinc 3 1, 3) := by decide +kernel
theorem dX8_digest_55 : decode cX8_digest 55 = .ok (.goto (-22), 3) := by decide +kernel
theorem dX8_digest_58 : decode cX8_digest 58 = .ok (.iconst 0, 1) := by decide +kernel
theorem dX8_digest_59 : decode cX8_digest 59 = .ok (.istore_n 3, 1) := by decide +kernel
theorem dX8_digest_60 : decode cX8_digest 60 = .ok (.iload_n 3, 1) := by decide +kernel
theorem dX8_digest_61 : decode cX8_digest 61 = .ok (.bipush 6, 2) := by decide +kernel
theorem dX8_digest_63 : decode cX8_digest 63 = .ok (.if_icmp .ge 23, 3) := by decide +kernel
theorem dX8_digest_66 : decode cX8_digest 66 = .ok (.ldc2_w 224, 3) := by decide +kernel
theorem dX8_digest_69 : decode cX8_digest 69 = .ok (.lload_n 1, 1) := by decide +kernel
theorem dX8_digest_70 : decode cX8_digest 70 = .ok (.lmul, 1) := by decide +kernel
theorem dX8_digest_71 : decode cX8_digest 71 = .ok (.aload_n 0, 1) := by decide +kernel
theorem dX8_digest_72 : decode cX8_digest 72 = .ok (.getfield 7, 3) := by decide +kernel
theorem dX8_digest_75 : decode cX8_digest 75 = .ok (.iload_n 3, 1) := by decide +kernel
theorem dX8_digest_76 : decode cX8_digest 76 = .ok (.iaload, 1) := by decide +kernel
theorem dX8_digest_77 : decode cX8_digest 77 = .ok (.i2l, 1) := by decide +kernel
theorem dX8_digest_78 : decode cX8_digest 78 = .ok (.ladd, 1) := by decide +kernel
theorem dX8_digest_79 : decode cX8_digest 79 = .ok (.lstore_n 1, 1) := by decide +kernel
theorem dX8_digest_80 : decode cX8_digest 80 = .ok (.iinc 3 1, 3) := by decide +kernel
theorem dX8_digest_83 : decode cX8_digest 83 = .ok (.goto (-23), 3) := by decide +kernel
theorem dX8_digest_86 : decode cX8_digest 86 = .ok (.iconst 0, 1) := by decide +kernel
theorem dX8_digest_87 : decode cX8_digest 87 = .ok (.istore_n 3, 1) := by decide +kernel
theorem dX8_digest_88 : decode cX8_digest 88 = .ok (.iload_n 3, 1) := by decide +kernel
theorem dX8_digest_89 : decode cX8_digest 89 = .ok (.aload_n 0, 1) := by decide +kernel
theorem dX8_digest_90 : decode cX8_digest 90 = .ok (.getfield 127, 3) := by decide +kernel
theorem dX8_digest_93 : decode cX8_digest 93 = .ok (.if_icmp .ge 40, 3) := by decide +kernel
theorem dX8_digest_96 : decode cX8_digest 96 = .ok (.iconst 0, 1) := by decide +kernel
theorem dX8_digest_97 : decode cX8_digest 97 = .ok (.istore 4, 2) := by decide +kernel
theorem dX8_digest_99 : decode cX8_digest 99 = .ok (.iload 4, 2) := by decide +kernel
theorem dX8_digest_101 : decode cX8_digest 101 = .ok (.bipush 7, 2) := by decide +kernel
theorem dX8_digest_103 : decode cX8_digest 103 = .ok (.if_icmp .ge 24, 3) := by decide +kernel
theorem dX8_digest_106 : decode cX8_digest 106 = .ok (.ldc2_w 224, 3) := by decide +kernel
theorem dX8_digest_109 : decode cX8_digest 109 = .ok (.lload_n 1, 1) := by decide +kernel
theorem dX8_digest_110 : decode cX8_digest 110 = .ok (.lmul, 1) := by decide +kernel
theorem dX8_digest_111 : decode cX8_digest 111 = .ok (.aload_n 0, 1) := by decide +kernel
theorem dX8_digest_112 : decode cX8_digest 112 = .ok (.iload_n 3, 1) := by decide +kernel
theorem dX8_digest_113 : decode cX8_digest 113 = .ok (.iload 4, 2) := by decide +kernel
theorem dX8_digest_115 : decode cX8_digest 115 = .ok (.invokevirtual 232, 3) := by decide +kernel
theorem dX8_digest_118 : decode cX8_digest 118 = .ok (.i2l, 1) := by decide +kernel
theorem dX8_digest_119 : decode cX8_digest 119 = .ok (.ladd, 1) := by decide +kernel
theorem dX8_digest_120 : decode cX8_digest 120 = .ok (.lstore_n 1, 1) := by decide +kernel
theorem dX8_digest_121 : decode cX8_digest 121 = .ok (.iinc 4 1, 3) := by decide +kernel
theorem dX8_digest_124 : decode cX8_digest 124 = .ok (.goto (-25), 3) := by decide +kernel
theorem dX8_digest_127 : decode cX8_digest 127 = .ok (.iinc 3 1, 3) := by decide +kernel
theorem dX8_digest_130 : decode cX8_digest 130 = .ok (.goto (-42), 3) := by decide +kernel
theorem dX8_digest_133 : decode cX8_digest 133 = .ok (.iconst 0, 1) := by decide +kernel
theorem dX8_digest_134 : decode cX8_digest 134 = .ok (.istore_n 3, 1) := by decide +kernel
theorem dX8_digest_135 : decode cX8_digest 135 = .ok (.iload_n 3, 1) := by decide +kernel
theorem dX8_digest_136 : decode cX8_digest 136 = .ok (.aload_n 0, 1) := by decide +kernel
theorem dX8_digest_137 : decode cX8_digest 137 = .ok (.getfield 189, 3) := by decide +kernel
theorem dX8_digest_140 : decode cX8_digest 140 = .ok (.if_icmp .ge 40, 3) := by decide +kernel
theorem dX8_digest_143 : decode cX8_digest 143 = .ok (.iconst 0, 1) := by decide +kernel
theorem dX8_digest_144 : decode cX8_digest 144 = .ok (.istore 4, 2) := by decide +kernel
theorem dX8_digest_146 : decode cX8_digest 146 = .ok (.iload 4, 2) := by decide +kernel
theorem dX8_digest_148 : decode cX8_digest 148 = .ok (.bipush 6, 2) := by decide +kernel
theorem dX8_digest_150 : decode cX8_digest 150 = .ok (.if_icmp .ge 24, 3) := by decide +kernel
theorem dX8_digest_153 : decode cX8_digest 153 = .ok (.ldc2_w 224, 3) := by decide +kernel
theorem dX8_digest_156 : decode cX8_digest 156 = .ok (.lload_n 1, 1) := by decide +kernel
theorem dX8_digest_157 : decode cX8_digest 157 = .ok (.lmul, 1) := by decide +kernel
theorem dX8_digest_158 : decode cX8_digest 158 = .ok (.aload_n 0, 1) := by decide +kernel
theorem dX8_digest_159 : decode cX8_digest 159 = .ok (.iload_n 3, 1) := by decide +kernel
theorem dX8_digest_160 : decode cX8_digest 160 = .ok (.iload 4, 2) := by decide +kernel
theorem dX8_digest_162 : decode cX8_digest 162 = .ok (.invokevirtual 235, 3) := by decide +kernel
theorem dX8_digest_165 : decode cX8_digest 165 = .ok (.i2l, 1) := by decide +kernel
theorem dX8_digest_166 : decode cX8_digest 166 = .ok (.ladd, 1) := by decide +kernel
theorem dX8_digest_167 : decode cX8_digest 167 = .ok (.lstore_n 1, 1) := by decide +kernel
theorem dX8_digest_168 : decode cX8_digest 168 = .ok (.iinc 4 1, 3) := by decide +kernel
theorem dX8_digest_171 : decode cX8_digest 171 = .ok (.goto (-25), 3) := by decide +kernel
theorem dX8_digest_174 : decode cX8_digest 174 = .ok (.iinc 3 1, 3) := by decide +kernel
theorem dX8_digest_177 : decode cX8_digest 177 = .ok (.goto (-42), 3) := by decide +kernel
theorem dX8_digest_180 : decode cX8_digest 180 = .ok (.iconst 0, 1) := by decide +kernel
theorem dX8_digest_181 : decode cX8_digest 181 = .ok (.istore_n 3, 1) := by decide +kernel
theorem dX8_digest_182 : decode cX8_digest 182 = .ok (.iload_n 3, 1) := by decide +kernel
theorem dX8_digest_183 : decode cX8_digest 183 = .ok (.iconst 3, 1) := by decide +kernel
theorem dX8_digest_184 : decode cX8_digest 184 = .ok (.if_icmp .ge 23, 3) := by decide +kernel
theorem dX8_digest_187 : decode cX8_digest 187 = .ok (.ldc2_w 224, 3) := by decide +kernel
theorem dX8_digest_190 : decode cX8_digest 190 = .ok (.lload_n 1, 1) := by decide +kernel
theorem dX8_digest_191 : decode cX8_digest 191 = .ok (.lmul, 1) := by decide +kernel
theorem dX8_digest_192 : decode cX8_digest 192 = .ok (.aload_n 0, 1) := by decide +kernel
theorem dX8_digest_193 : decode cX8_digest 193 = .ok (.getfield 71, 3) := by decide +kernel
theorem dX8_digest_196 : decode cX8_digest 196 = .ok (.iload_n 3, 1) := by decide +kernel
theorem dX8_digest_197 : decode cX8_digest 197 = .ok (.iaload, 1) := by decide +kernel
theorem dX8_digest_198 : decode cX8_digest 198 = .ok (.i2l, 1) := by decide +kernel
theorem dX8_digest_199 : decode cX8_digest 199 = .ok (.ladd, 1) := by decide +kernel
theorem dX8_digest_200 : decode cX8_digest 200 = .ok (.lstore_n 1, 1) := by decide +kernel
theorem dX8_digest_201 : decode cX8_digest 201 = .ok (.iinc 3 1, 3) := by decide +kernel
theorem dX8_digest_204 : decode cX8_digest 204 = .ok (.goto (-22), 3) := by decide +kernel
theorem dX8_digest_207 : decode cX8_digest 207 = .ok (.lload_n 1, 1) := by decide +kernel
theorem dX8_digest_208 : decode cX8_digest 208 = .ok (.lreturn, 1) := by decide +kernel
theorem dL_law_0 : decode cL_law 0 = .ok (.new 7, 3) := by decide +kernel
theorem dL_law_3 : decode cL_law 3 = .ok (.dup, 1) := by decide +kernel
theorem dL_law_4 : decode cL_law 4 = .ok (.invokespecial 9, 3) := by decide +kernel
theorem dL_law_7 : decode cL_law 7 = .ok (.astore_n 1, 1) := by decide +kernel
theorem dL_law_8 : decode cL_law 8 = .ok (.new 10, 3) := by decide +kernel
theorem dL_law_11 : decode cL_law 11 = .ok (.dup, 1) := by decide +kernel
theorem dL_law_12 : decode cL_law 12 = .ok (.invokespecial 12, 3) := by decide +kernel
theorem dL_law_15 : decode cL_law 15 = .ok (.astore_n 2, 1) := by decide +kernel
theorem dL_law_16 : decode cL_law 16 = .ok (.iconst 0, 1) := by decide +kernel
theorem dL_law_17 : decode cL_law 17 = .ok (.istore_n 3, 1) := by decide +kernel
theorem dL_law_18 : decode cL_law 18 = .ok (.iload_n 3, 1) := by decide +kernel
theorem dL_law_19 : decode cL_law 19 = .ok (.aload_n 0, 1) := by decide +kernel
theorem dL_law_20 : decode cL_law 20 = .ok (.arraylength, 1) := by decide +kernel
theorem dL_law_21 : decode cL_law 21 = .ok (.iconst 5, 1) := by decide +kernel
theorem dL_law_22 : decode cL_law 22 = .ok (.isub, 1) := by decide +kernel
theorem dL_law_23 : decode cL_law 23 = .ok (.if_icmp .gt 893, 3) := by decide +kernel
theorem dL_law_26 : decode cL_law 26 = .ok (.aload_n 0, 1) := by decide +kernel
theorem dL_law_27 : decode cL_law 27 = .ok (.iload_n 3, 1) := by decide +kernel
theorem dL_law_28 : decode cL_law 28 = .ok (.iaload, 1) := by decide +kernel
theorem dL_law_29 : decode cL_law 29 = .ok (.bipush 31, 2) := by decide +kernel
theorem dL_law_31 : decode cL_law 31 = .ok (.iand, 1) := by decide +kernel
theorem dL_law_32 : decode cL_law 32 = .ok (.tableswitch 878 0 24 #[116, 149, 182, 235, 268, 291, 314, 347, 370, 383, 406, 429, 462, 485, 518, 587, 600, 643, 656, 669, 712, 765, 818, 841, 864], 116) := by decide +kernel
theorem dL_law_148 : decode cL_law 148 = .ok (.aload_n 1, 1) := by decide +kernel
theorem dL_law_149 : decode cL_law 149 = .ok (.aload_n 0, 1) := by decide +kernel
theorem dL_law_150 : decode cL_law 150 = .ok (.iload_n 3, 1) := by decide +kernel
theorem dL_law_151 : decode cL_law 151 = .ok (.iconst 1, 1) := by decide +kernel
theorem dL_law_152 : decode cL_law 152 = .ok (.iadd, 1) := by decide +kernel
theorem dL_law_153 : decode cL_law 153 = .ok (.iaload, 1) := by decide +kernel
theorem dL_law_154 : decode cL_law 154 = .ok (.aload_n 0, 1) := by decide +kernel
theorem dL_law_155 : decode cL_law 155 = .ok (.iload_n 3, 1) := by decide +kernel
theorem dL_law_156 : decode cL_law 156 = .ok (.iconst 2, 1) := by decide +kernel
theorem dL_law_157 : decode cL_law 157 = .ok (.iadd, 1) := by decide +kernel
theorem dL_law_158 : decode cL_law 158 = .ok (.iaload, 1) := by decide +kernel
theorem dL_law_159 : decode cL_law 159 = .ok (.invokevirtual 13, 3) := by decide +kernel
theorem dL_law_162 : decode cL_law 162 = .ok (.aload_n 2, 1) := by decide +kernel
theorem dL_law_163 : decode cL_law 163 = .ok (.aload_n 0, 1) := by decide +kernel
theorem dL_law_164 : decode cL_law 164 = .ok (.iload_n 3, 1) := by decide +kernel
theorem dL_law_165 : decode cL_law 165 = .ok (.iconst 1, 1) := by decide +kernel
theorem dL_law_166 : decode cL_law 166 = .ok (.iadd, 1) := by decide +kernel
theorem dL_law_167 : decode cL_law 167 = .ok (.iaload, 1) := by decide +kernel
theorem dL_law_168 : decode cL_law 168 = .ok (.aload_n 0, 1) := by decide +kernel
theorem dL_law_169 : decode cL_law 169 = .ok (.iload_n 3, 1) := by decide +kernel
theorem dL_law_170 : decode cL_law 170 = .ok (.iconst 2, 1) := by decide +kernel
theorem dL_law_171 : decode cL_law 171 = .ok (.iadd, 1) := by decide +kernel
theorem dL_law_172 : decode cL_law 172 = .ok (.iaload, 1) := by decide +kernel
theorem dL_law_173 : decode cL_law 173 = .ok (.invokevirtual 17, 3) := by decide +kernel
theorem dL_law_176 : decode cL_law 176 = .ok (.if_icmp .eq 734, 3) := by decide +kernel
theorem dL_law_179 : decode cL_law 179 = .ok (.iconst 0, 1) := by decide +kernel
theorem dL_law_180 : decode cL_law 180 = .ok (.ireturn, 1) := by decide +kernel
theorem dL_law_181 : decode cL_law 181 = .ok (.aload_n 1, 1) := by decide +kernel
theorem dL_law_182 : decode cL_law 182 = .ok (.aload_n 0, 1) := by decide +kernel
theorem dL_law_183 : decode cL_law 183 = .ok (.iload_n 3, 1) := by decide +kernel
theorem dL_law_184 : decode cL_law 184 = .ok (.iconst 1, 1) := by decide +kernel
theorem dL_law_185 : decode cL_law 185 = .ok (.iadd, 1) := by decide +kernel
theorem dL_law_186 : decode cL_law 186 = .ok (.iaload, 1) := by decide +kernel
theorem dL_law_187 : decode cL_law 187 = .ok (.aload_n 0, 1) := by decide +kernel
theorem dL_law_188 : decode cL_law 188 = .ok (.iload_n 3, 1) := by decide +kernel
theorem dL_law_189 : decode cL_law 189 = .ok (.iconst 2, 1) := by decide +kernel
theorem dL_law_190 : decode cL_law 190 = .ok (.iadd, 1) := by decide +kernel
theorem dL_law_191 : decode cL_law 191 = .ok (.iaload, 1) := by decide +kernel
theorem dL_law_192 : decode cL_law 192 = .ok (.invokevirtual 18, 3) := by decide +kernel
theorem dL_law_195 : decode cL_law 195 = .ok (.aload_n 2, 1) := by decide +kernel
theorem dL_law_196 : decode cL_law 196 = .ok (.aload_n 0, 1) := by decide +kernel
theorem dL_law_197 : decode cL_law 197 = .ok (.iload_n 3, 1) := by decide +kernel
theorem dL_law_198 : decode cL_law 198 = .ok (.iconst 1, 1) := by decide +kernel
theorem dL_law_199 : decode cL_law 199 = .ok (.iadd, 1) := by decide +kernel
theorem dL_law_200 : decode cL_law 200 = .ok (.iaload, 1) := by decide +kernel
theorem dL_law_201 : decode cL_law 201 = .ok (.aload_n 0, 1) := by decide +kernel
theorem dL_law_202 : decode cL_law 202 = .ok (.iload_n 3, 1) := by decide +kernel
theorem dL_law_203 : decode cL_law 203 = .ok (.iconst 2, 1) := by decide +kernel
theorem dL_law_204 : decode cL_law 204 = .ok (.iadd, 1) := by decide +kernel
theorem dL_law_205 : decode cL_law 205 = .ok (.iaload, 1) := by decide +kernel
theorem dL_law_206 : decode cL_law 206 = .ok (.invokevirtual 21, 3) := by decide +kernel
theorem dL_law_209 : decode cL_law 209 = .ok (.if_icmp .eq 701, 3) := by decide +kernel
theorem dL_law_212 : decode cL_law 212 = .ok (.iconst 0, 1) := by decide +kernel
theorem dL_law_213 : decode cL_law 213 = .ok (.ireturn, 1) := by decide +kernel
theorem dL_law_214 : decode cL_law 214 = .ok (.aload_n 1, 1) := by decide +kernel
theorem dL_law_215 : decode cL_law 215 = .ok (.aload_n 0, 1) := by decide +kernel
theorem dL_law_216 : decode cL_law 216 = .ok (.iload_n 3, 1) := by decide +kernel
theorem dL_law_217 : decode cL_law 217 = .ok (.iconst 1, 1) := by decide +kernel
theorem dL_law_218 : decode cL_law 218 = .ok (.iadd, 1) := by decide +kernel
theorem dL_law_219 : decode cL_law 219 = .ok (.iaload, 1) := by decide +kernel
theorem dL_law_220 : decode cL_law 220 = .ok (.aload_n 0, 1) := by decide +kernel
theorem dL_law_221 : decode cL_law 221 = .ok (.iload_n 3, 1) := by decide +kernel
theorem dL_law_222 : decode cL_law 222 = .ok (.iconst 2, 1) := by decide +kernel
theorem dL_law_223 : decode cL_law 223 = .ok (.iadd, 1) := by decide +kernel
theorem dL_law_224 : decode cL_law 224 = .ok (.iaload, 1) := by decide +kernel
theorem dL_law_225 : decode cL_law 225 = .ok (.aload_n 0, 1) := by decide +kernel
theorem dL_law_226 : decode cL_law 226 = .ok (.iload_n 3, 1) := by decide +kernel
theorem dL_law_227 : decode cL_law 227 = .ok (.iconst 3, 1) := by decide +kernel
theorem dL_law_228 : decode cL_law 228 = .ok (.iadd, 1) := by decide +kernel
theorem dL_law_229 : decode cL_law 229 = .ok (.iaload, 1) := by decide +kernel
theorem dL_law_230 : decode cL_law 230 = .ok (.aload_n 0, 1) := by decide +kernel
theorem dL_law_231 : decode cL_law 231 = .ok (.iload_n 3, 1) := by decide +kernel
theorem dL_law_232 : decode cL_law 232 = .ok (.iconst 4, 1) := by decide +kernel
theorem dL_law_233 : decode cL_law 233 = .ok (.iadd, 1) := by decide +kernel
theorem dL_law_234 : decode cL_law 234 = .ok (.iaload, 1) := by decide +kernel
theorem dL_law_235 : decode cL_law 235 = .ok (.invokevirtual 22, 3) := by decide +kernel
theorem dL_law_238 : decode cL_law 238 = .ok (.aload_n 2, 1) := by decide +kernel
theorem dL_law_239 : decode cL_law 239 = .ok (.aload_n 0, 1) := by decide +kernel
theorem dL_law_240 : decode cL_law 240 = .ok (.iload_n 3, 1) := by decide +kernel
theorem dL_law_241 : decode cL_law 241 = .ok (.iconst 1, 1) := by decide +kernel
theorem dL_law_242 : decode cL_law 242 = .ok (.iadd, 1) := by decide +kernel
theorem dL_law_243 : decode cL_law 243 = .ok (.iaload, 1) := by decide +kernel
theorem dL_law_244 : decode cL_law 244 = .ok (.aload_n 0, 1) := by decide +kernel
theorem dL_law_245 : decode cL_law 245 = .ok (.iload_n 3, 1) := by decide +kernel
theorem dL_law_246 : decode cL_law 246 = .ok (.iconst 2, 1) := by decide +kernel
theorem dL_law_247 : decode cL_law 247 = .ok (.iadd, 1) := by decide +kernel
theorem dL_law_248 : decode cL_law 248 = .ok (.iaload, 1) := by decide +kernel
theorem dL_law_249 : decode cL_law 249 = .ok (.aload_n 0, 1) := by decide +kernel
theorem dL_law_250 : decode cL_law 250 = .ok (.iload_n 3, 1) := by decide +kernel
theorem dL_law_251 : decode cL_law 251 = .ok (.iconst 3, 1) := by decide +kernel
theorem dL_law_252 : decode cL_law 252 = .ok (.iadd, 1) := by decide +kernel
theorem dL_law_253 : decode cL_law 253 = .ok (.iaload, 1) := by decide +kernel
theorem dL_law_254 : decode cL_law 254 = .ok (.aload_n 0, 1) := by decide +kernel
theorem dL_law_255 : decode cL_law 255 = .ok (.iload_n 3, 1) := by decide +kernel
theorem dL_law_256 : decode cL_law 256 = .ok (.iconst 4, 1) := by decide +kernel
theorem dL_law_257 : decode cL_law 257 = .ok (.iadd, 1) := by decide +kernel
theorem dL_law_258 : decode cL_law 258 = .ok (.iaload, 1) := by decide +kernel
theorem dL_law_259 : decode cL_law 259 = .ok (.invokevirtual 26, 3) := by decide +kernel
theorem dL_law_262 : decode cL_law 262 = .ok (.if_icmp .eq 648, 3) := by decide +kernel
theorem dL_law_265 : decode cL_law 265 = .ok (.iconst 0, 1) := by decide +kernel
theorem dL_law_266 : decode cL_law 266 = .ok (.ireturn, 1) := by decide +kernel
theorem dL_law_267 : decode cL_law 267 = .ok (.aload_n 1, 1) := by decide +kernel
theorem dL_law_268 : decode cL_law 268 = .ok (.aload_n 0, 1) := by decide +kernel
theorem dL_law_269 : decode cL_law 269 = .ok (.iload_n 3, 1) := by decide +kernel
theorem dL_law_270 : decode cL_law 270 = .ok (.iconst 1, 1) := by decide +kernel
theorem dL_law_271 : decode cL_law 271 = .ok (.iadd, 1) := by decide +kernel
theorem dL_law_272 : decode cL_law 272 = .ok (.iaload, 1) := by decide +kernel
theorem dL_law_273 : decode cL_law 273 = .ok (.aload_n 0, 1) := by decide +kernel
theorem dL_law_274 : decode cL_law 274 = .ok (.iload_n 3, 1) := by decide +kernel
theorem dL_law_275 : decode cL_law 275 = .ok (.iconst 2, 1) := by decide +kernel
theorem dL_law_276 : decode cL_law 276 = .ok (.iadd, 1) := by decide +kernel
theorem dL_law_277 : decode cL_law 277 = .ok (.iaload, 1) := by decide +kernel
theorem dL_law_278 : decode cL_law 278 = .ok (.invokevirtual 27, 3) := by decide +kernel
theorem dL_law_281 : decode cL_law 281 = .ok (.aload_n 2, 1) := by decide +kernel
theorem dL_law_282 : decode cL_law 282 = .ok (.aload_n 0, 1) := by decide +kernel
theorem dL_law_283 : decode cL_law 283 = .ok (.iload_n 3, 1) := by decide +kernel
theorem dL_law_284 : decode cL_law 284 = .ok (.iconst 1, 1) := by decide +kernel
theorem dL_law_285 : decode cL_law 285 = .ok (.iadd, 1) := by decide +kernel
theorem dL_law_286 : decode cL_law 286 = .ok (.iaload, 1) := by decide +kernel
theorem dL_law_287 : decode cL_law 287 = .ok (.aload_n 0, 1) := by decide +kernel
theorem dL_law_288 : decode cL_law 288 = .ok (.iload_n 3, 1) := by decide +kernel
theorem dL_law_289 : decode cL_law 289 = .ok (.iconst 2, 1) := by decide +kernel
theorem dL_law_290 : decode cL_law 290 = .ok (.iadd, 1) := by decide +kernel
theorem dL_law_291 : decode cL_law 291 = .ok (.iaload, 1) := by decide +kernel
theorem dL_law_292 : decode cL_law 292 = .ok (.invokevirtual 30, 3) := by decide +kernel
theorem dL_law_295 : decode cL_law 295 = .ok (.if_icmp .eq 615, 3) := by decide +kernel
theorem dL_law_298 : decode cL_law 298 = .ok (.iconst 0, 1) := by decide +kernel
theorem dL_law_299 : decode cL_law 299 = .ok (.ireturn, 1) := by decide +kernel
theorem dL_law_300 : decode cL_law 300 = .ok (.aload_n 1, 1) := by decide +kernel
theorem dL_law_301 : decode cL_law 301 = .ok (.aload_n 0, 1) := by decide +kernel
theorem dL_law_302 : decode cL_law 302 = .ok (.iload_n 3, 1) := by decide +kernel
theorem dL_law_303 : decode cL_law 303 = .ok (.iconst 1, 1) := by decide +kernel
theorem dL_law_304 : decode cL_law 304 = .ok (.iadd, 1) := by decide +kernel
theorem dL_law_305 : decode cL_law 305 = .ok (.iaload, 1) := by decide +kernel
theorem dL_law_306 : decode cL_law 306 = .ok (.invokevirtual 31, 3) := by decide +kernel
theorem dL_law_309 : decode cL_law 309 = .ok (.aload_n 2, 1) := by decide +kernel
theorem dL_law_310 : decode cL_law 310 = .ok (.aload_n 0, 1) := by decide +kernel
theorem dL_law_311 : decode cL_law 311 = .ok (.iload_n 3, 1) := by decide +kernel
theorem dL_law_312 : decode cL_law 312 = .ok (.iconst 1, 1) := by decide +kernel
theorem dL_law_313 : decode cL_law 313 = .ok (.iadd, 1) := by decide +kernel
theorem dL_law_314 : decode cL_law 314 = .ok (.iaload, 1) := by decide +kernel
theorem dL_law_315 : decode cL_law 315 = .ok (.invokevirtual 35, 3) := by decide +kernel
theorem dL_law_318 : decode cL_law 318 = .ok (.if_icmp .eq 592, 3) := by decide +kernel
theorem dL_law_321 : decode cL_law 321 = .ok (.iconst 0, 1) := by decide +kernel
theorem dL_law_322 : decode cL_law 322 = .ok (.ireturn, 1) := by decide +kernel
theorem dL_law_323 : decode cL_law 323 = .ok (.aload_n 1, 1) := by decide +kernel
theorem dL_law_324 : decode cL_law 324 = .ok (.aload_n 0, 1) := by decide +kernel
theorem dL_law_325 : decode cL_law 325 = .ok (.iload_n 3, 1) := by decide +kernel
theorem dL_law_326 : decode cL_law 326 = .ok (.iconst 1, 1) := by decide +kernel
theorem dL_law_327 : decode cL_law 327 = .ok (.iadd, 1) := by decide +kernel
theorem dL_law_328 : decode cL_law 328 = .ok (.iaload, 1) := by decide +kernel
theorem dL_law_329 : decode cL_law 329 = .ok (.invokevirtual 36, 3) := by decide +kernel
theorem dL_law_332 : decode cL_law 332 = .ok (.aload_n 2, 1) := by decide +kernel
theorem dL_law_333 : decode cL_law 333 = .ok (.aload_n 0, 1) := by decide +kernel
theorem dL_law_334 : decode cL_law 334 = .ok (.iload_n 3, 1) := by decide +kernel
theorem dL_law_335 : decode cL_law 335 = .ok (.iconst 1, 1) := by decide +kernel
theorem dL_law_336 : decode cL_law 336 = .ok (.iadd, 1) := by decide +kernel
theorem dL_law_337 : decode cL_law 337 = .ok (.iaload, 1) := by decide +kernel
theorem dL_law_338 : decode cL_law 338 = .ok (.invokevirtual 39, 3) := by decide +kernel
theorem dL_law_341 : decode cL_law 341 = .ok (.if_icmp .eq 569, 3) := by decide +kernel
theorem dL_law_344 : decode cL_law 344 = .ok (.iconst 0, 1) := by decide +kernel
theorem dL_law_345 : decode cL_law 345 = .ok (.ireturn, 1) := by decide +kernel
theorem dL_law_346 : decode cL_law 346 = .ok (.aload_n 1, 1) := by decide +kernel
theorem dL_law_347 : decode cL_law 347 = .ok (.aload_n 0, 1) := by decide +kernel
theorem dL_law_348 : decode cL_law 348 = .ok (.iload_n 3, 1) := by decide +kernel
theorem dL_law_349 : decode cL_law 349 = .ok (.iconst 1, 1) := by decide +kernel
theorem dL_law_350 : decode cL_law 350 = .ok (.iadd, 1) := by decide +kernel
theorem dL_law_351 : decode cL_law 351 = .ok (.iaload, 1) := by decide +kernel
theorem dL_law_352 : decode cL_law 352 = .ok (.aload_n 0, 1) := by decide +kernel
theorem dL_law_353 : decode cL_law 353 = .ok (.iload_n 3, 1) := by decide +kernel
theorem dL_law_354 : decode cL_law 354 = .ok (.iconst 2, 1) := by decide +kernel
theorem dL_law_355 : decode cL_law 355 = .ok (.iadd, 1) := by decide +kernel
theorem dL_law_356 : decode cL_law 356 = .ok (.iaload, 1) := by decide +kernel
theorem dL_law_357 : decode cL_law 357 = .ok (.invokevirtual 40, 3) := by decide +kernel
theorem dL_law_360 : decode cL_law 360 = .ok (.aload_n 2, 1) := by decide +kernel
theorem dL_law_361 : decode cL_law 361 = .ok (.aload_n 0, 1) := by decide +kernel
theorem dL_law_362 : decode cL_law 362 = .ok (.iload_n 3, 1) := by decide +kernel
theorem dL_law_363 : decode cL_law 363 = .ok (.iconst 1, 1) := by decide +kernel
theorem dL_law_364 : decode cL_law 364 = .ok (.iadd, 1) := by decide +kernel
theorem dL_law_365 : decode cL_law 365 = .ok (.iaload, 1) := by decide +kernel
theorem dL_law_366 : decode cL_law 366 = .ok (.aload_n 0, 1) := by decide +kernel
theorem dL_law_367 : decode cL_law 367 = .ok (.iload_n 3, 1) := by decide +kernel
theorem dL_law_368 : decode cL_law 368 = .ok (.iconst 2, 1) := by decide +kernel
theorem dL_law_369 : decode cL_law 369 = .ok (.iadd, 1) := by decide +kernel
theorem dL_law_370 : decode cL_law 370 = .ok (.iaload, 1) := by decide +kernel
theorem dL_law_371 : decode cL_law 371 = .ok (.invokevirtual 43, 3) := by decide +kernel
theorem dL_law_374 : decode cL_law 374 = .ok (.if_icmp .eq 536, 3) := by decide +kernel
theorem dL_law_377 : decode cL_law 377 = .ok (.iconst 0, 1) := by decide +kernel
theorem dL_law_378 : decode cL_law 378 = .ok (.ireturn, 1) := by decide +kernel
theorem dL_law_379 : decode cL_law 379 = .ok (.aload_n 1, 1) := by decide +kernel
theorem dL_law_380 : decode cL_law 380 = .ok (.aload_n 0, 1) := by decide +kernel
theorem dL_law_381 : decode cL_law 381 = .ok (.iload_n 3, 1) := by decide +kernel
theorem dL_law_382 : decode cL_law 382 = .ok (.iconst 1, 1) := by decide +kernel
theorem dL_law_383 : decode cL_law 383 = .ok (.iadd, 1) := by decide +kernel
theorem dL_law_384 : decode cL_law 384 = .ok (.iaload, 1) := by decide +kernel
theorem dL_law_385 : decode cL_law 385 = .ok (.invokevirtual 44, 3) := by decide +kernel
theorem dL_law_388 : decode cL_law 388 = .ok (.aload_n 2, 1) := by decide +kernel
theorem dL_law_389 : decode cL_law 389 = .ok (.aload_n 0, 1) := by decide +kernel
theorem dL_law_390 : decode cL_law 390 = .ok (.iload_n 3, 1) := by decide +kernel
theorem dL_law_391 : decode cL_law 391 = .ok (.iconst 1, 1) := by decide +kernel
theorem dL_law_392 : decode cL_law 392 = .ok (.iadd, 1) := by decide +kernel
theorem dL_law_393 : decode cL_law 393 = .ok (.iaload, 1) := by decide +kernel
theorem dL_law_394 : decode cL_law 394 = .ok (.invokevirtual 47, 3) := by decide +kernel
theorem dL_law_397 : decode cL_law 397 = .ok (.if_icmp .eq 513, 3) := by decide +kernel
theorem dL_law_400 : decode cL_law 400 = .ok (.iconst 0, 1) := by decide +kernel
theorem dL_law_401 : decode cL_law 401 = .ok (.ireturn, 1) := by decide +kernel
theorem dL_law_402 : decode cL_law 402 = .ok (.aload_n 1, 1) := by decide +kernel
theorem dL_law_403 : decode cL_law 403 = .ok (.invokevirtual 48, 3) := by decide +kernel
theorem dL_law_406 : decode cL_law 406 = .ok (.aload_n 2, 1) := by decide +kernel
theorem dL_law_407 : decode cL_law 407 = .ok (.invokevirtual 52, 3) := by decide +kernel
theorem dL_law_410 : decode cL_law 410 = .ok (.if_icmp .eq 500, 3) := by decide +kernel
theorem dL_law_413 : decode cL_law 413 = .ok (.iconst 0, 1) := by decide +kernel
theorem dL_law_414 : decode cL_law 414 = .ok (.ireturn, 1) := by decide +kernel
theorem dL_law_415 : decode cL_law 415 = .ok (.aload_n 1, 1) := by decide +kernel
theorem dL_law_416 : decode cL_law 416 = .ok (.aload_n 0, 1) := by decide +kernel
theorem dL_law_417 : decode cL_law 417 = .ok (.iload_n 3, 1) := by decide +kernel
theorem dL_law_418 : decode cL_law 418 = .ok (.iconst 1, 1) := by decide +kernel
theorem dL_law_419 : decode cL_law 419 = .ok (.iadd, 1) := by decide +kernel
theorem dL_law_420 : decode cL_law 420 = .ok (.iaload, 1) := by decide +kernel
theorem dL_law_421 : decode cL_law 421 = .ok (.invokevirtual 53, 3) := by decide +kernel
theorem dL_law_424 : decode cL_law 424 = .ok (.aload_n 2, 1) := by decide +kernel
theorem dL_law_425 : decode cL_law 425 = .ok (.aload_n 0, 1) := by decide +kernel
theorem dL_law_426 : decode cL_law 426 = .ok (.iload_n 3, 1) := by decide +kernel
theorem dL_law_427 : decode cL_law 427 = .ok (.iconst 1, 1) := by decide +kernel
theorem dL_law_428 : decode cL_law 428 = .ok (.iadd, 1) := by decide +kernel
theorem dL_law_429 : decode cL_law 429 = .ok (.iaload, 1) := by decide +kernel
theorem dL_law_430 : decode cL_law 430 = .ok (.invokevirtual 56, 3) := by decide +kernel
theorem dL_law_433 : decode cL_law 433 = .ok (.if_icmp .eq 477, 3) := by decide +kernel
theorem dL_law_436 : decode cL_law 436 = .ok (.iconst 0, 1) := by decide +kernel
theorem dL_law_437 : decode cL_law 437 = .ok (.ireturn, 1) := by decide +kernel
theorem dL_law_438 : decode cL_law 438 = .ok (.aload_n 1, 1) := by decide +kernel
theorem dL_law_439 : decode cL_law 439 = .ok (.aload_n 0, 1) := by decide +kernel
theorem dL_law_440 : decode cL_law 440 = .ok (.iload_n 3, 1) := by decide +kernel
theorem dL_law_441 : decode cL_law 441 = .ok (.iconst 1, 1) := by decide +kernel
theorem dL_law_442 : decode cL_law 442 = .ok (.iadd, 1) := by decide +kernel
theorem dL_law_443 : decode cL_law 443 = .ok (.iaload, 1) := by decide +kernel
theorem dL_law_444 : decode cL_law 444 = .ok (.invokevirtual 57, 3) := by decide +kernel
theorem dL_law_447 : decode cL_law 447 = .ok (.aload_n 2, 1) := by decide +kernel
theorem dL_law_448 : decode cL_law 448 = .ok (.aload_n 0, 1) := by decide +kernel
theorem dL_law_449 : decode cL_law 449 = .ok (.iload_n 3, 1) := by decide +kernel
theorem dL_law_450 : decode cL_law 450 = .ok (.iconst 1, 1) := by decide +kernel
theorem dL_law_451 : decode cL_law 451 = .ok (.iadd, 1) := by decide +kernel
theorem dL_law_452 : decode cL_law 452 = .ok (.iaload, 1) := by decide +kernel
theorem dL_law_453 : decode cL_law 453 = .ok (.invokevirtual 60, 3) := by decide +kernel
theorem dL_law_456 : decode cL_law 456 = .ok (.if_icmp .eq 454, 3) := by decide +kernel
theorem dL_law_459 : decode cL_law 459 = .ok (.iconst 0, 1) := by decide +kernel
theorem dL_law_460 : decode cL_law 460 = .ok (.ireturn, 1) := by decide +kernel
theorem dL_law_461 : decode cL_law 461 = .ok (.aload_n 1, 1) := by decide +kernel
theorem dL_law_462 : decode cL_law 462 = .ok (.aload_n 0, 1) := by decide +kernel
theorem dL_law_463 : decode cL_law 463 = .ok (.iload_n 3, 1) := by decide +kernel
theorem dL_law_464 : decode cL_law 464 = .ok (.iconst 1, 1) := by decide +kernel
theorem dL_law_465 : decode cL_law 465 = .ok (.iadd, 1) := by decide +kernel
theorem dL_law_466 : decode cL_law 466 = .ok (.iaload, 1) := by decide +kernel
theorem dL_law_467 : decode cL_law 467 = .ok (.aload_n 0, 1) := by decide +kernel
theorem dL_law_468 : decode cL_law 468 = .ok (.iload_n 3, 1) := by decide +kernel
theorem dL_law_469 : decode cL_law 469 = .ok (.iconst 2, 1) := by decide +kernel
theorem dL_law_470 : decode cL_law 470 = .ok (.iadd, 1) := by decide +kernel
theorem dL_law_471 : decode cL_law 471 = .ok (.iaload, 1) := by decide +kernel
theorem dL_law_472 : decode cL_law 472 = .ok (.invokevirtual 61, 3) := by decide +kernel
theorem dL_law_475 : decode cL_law 475 = .ok (.aload_n 2, 1) := by decide +kernel
theorem dL_law_476 : decode cL_law 476 = .ok (.aload_n 0, 1) := by decide +kernel
theorem dL_law_477 : decode cL_law 477 = .ok (.iload_n 3, 1) := by decide +kernel
theorem dL_law_478 : decode cL_law 478 = .ok (.iconst 1, 1) := by decide +kernel
theorem dL_law_479 : decode cL_law 479 = .ok (.iadd, 1) := by decide +kernel
theorem dL_law_480 : decode cL_law 480 = .ok (.iaload, 1) := by decide +kernel
theorem dL_law_481 : decode cL_law 481 = .ok (.aload_n 0, 1) := by decide +kernel
theorem dL_law_482 : decode cL_law 482 = .ok (.iload_n 3, 1) := by decide +kernel
theorem dL_law_483 : decode cL_law 483 = .ok (.iconst 2, 1) := by decide +kernel
theorem dL_law_484 : decode cL_law 484 = .ok (.iadd, 1) := by decide +kernel
theorem dL_law_485 : decode cL_law 485 = .ok (.iaload, 1) := by decide +kernel
theorem dL_law_486 : decode cL_law 486 = .ok (.invokevirtual 64, 3) := by decide +kernel
theorem dL_law_489 : decode cL_law 489 = .ok (.if_icmp .eq 421, 3) := by decide +kernel
theorem dL_law_492 : decode cL_law 492 = .ok (.iconst 0, 1) := by decide +kernel
theorem dL_law_493 : decode cL_law 493 = .ok (.ireturn, 1) := by decide +kernel
theorem dL_law_494 : decode cL_law 494 = .ok (.aload_n 1, 1) := by decide +kernel
theorem dL_law_495 : decode cL_law 495 = .ok (.aload_n 0, 1) := by decide +kernel
theorem dL_law_496 : decode cL_law 496 = .ok (.iload_n 3, 1) := by decide +kernel
theorem dL_law_497 : decode cL_law 497 = .ok (.iconst 1, 1) := by decide +kernel
theorem dL_law_498 : decode cL_law 498 = .ok (.iadd, 1) := by decide +kernel
theorem dL_law_499 : decode cL_law 499 = .ok (.iaload, 1) := by decide +kernel
theorem dL_law_500 : decode cL_law 500 = .ok (.invokevirtual 65, 3) := by decide +kernel
theorem dL_law_503 : decode cL_law 503 = .ok (.aload_n 2, 1) := by decide +kernel
theorem dL_law_504 : decode cL_law 504 = .ok (.aload_n 0, 1) := by decide +kernel
theorem dL_law_505 : decode cL_law 505 = .ok (.iload_n 3, 1) := by decide +kernel
theorem dL_law_506 : decode cL_law 506 = .ok (.iconst 1, 1) := by decide +kernel
theorem dL_law_507 : decode cL_law 507 = .ok (.iadd, 1) := by decide +kernel
theorem dL_law_508 : decode cL_law 508 = .ok (.iaload, 1) := by decide +kernel
theorem dL_law_509 : decode cL_law 509 = .ok (.invokevirtual 68, 3) := by decide +kernel
theorem dL_law_512 : decode cL_law 512 = .ok (.if_icmp .eq 398, 3) := by decide +kernel
theorem dL_law_515 : decode cL_law 515 = .ok (.iconst 0, 1) := by decide +kernel
theorem dL_law_516 : decode cL_law 516 = .ok (.ireturn, 1) := by decide +kernel
theorem dL_law_517 : decode cL_law 517 = .ok (.aload_n 1, 1) := by decide +kernel
theorem dL_law_518 : decode cL_law 518 = .ok (.aload_n 0, 1) := by decide +kernel
theorem dL_law_519 : decode cL_law 519 = .ok (.iload_n 3, 1) := by decide +kernel
theorem dL_law_520 : decode cL_law 520 = .ok (.iconst 1, 1) := by decide +kernel
theorem dL_law_521 : decode cL_law 521 = .ok (.iadd, 1) := by decide +kernel
theorem dL_law_522 : decode cL_law 522 = .ok (.iaload, 1) := by decide +kernel
theorem dL_law_523 : decode cL_law 523 = .ok (.aload_n 0, 1) := by decide +kernel
theorem dL_law_524 : decode cL_law 524 = .ok (.iload_n 3, 1) := by decide +kernel
theorem dL_law_525 : decode cL_law 525 = .ok (.iconst 2, 1) := by decide +kernel
theorem dL_law_526 : decode cL_law 526 = .ok (.iadd, 1) := by decide +kernel
theorem dL_law_527 : decode cL_law 527 = .ok (.iaload, 1) := by decide +kernel
theorem dL_law_528 : decode cL_law 528 = .ok (.invokevirtual 69, 3) := by decide +kernel
theorem dL_law_531 : decode cL_law 531 = .ok (.aload_n 2, 1) := by decide +kernel
theorem dL_law_532 : decode cL_law 532 = .ok (.aload_n 0, 1) := by decide +kernel
theorem dL_law_533 : decode cL_law 533 = .ok (.iload_n 3, 1) := by decide +kernel
theorem dL_law_534 : decode cL_law 534 = .ok (.iconst 1, 1) := by decide +kernel
theorem dL_law_535 : decode cL_law 535 = .ok (.iadd, 1) := by decide +kernel
theorem dL_law_536 : decode cL_law 536 = .ok (.iaload, 1) := by decide +kernel
theorem dL_law_537 : decode cL_law 537 = .ok (.aload_n 0, 1) := by decide +kernel
theorem dL_law_538 : decode cL_law 538 = .ok (.iload_n 3, 1) := by decide +kernel
theorem dL_law_539 : decode cL_law 539 = .ok (.iconst 2, 1) := by decide +kernel
theorem dL_law_540 : decode cL_law 540 = .ok (.iadd, 1) := by decide +kernel
theorem dL_law_541 : decode cL_law 541 = .ok (.iaload, 1) := by decide +kernel
theorem dL_law_542 : decode cL_law 542 = .ok (.invokevirtual 72, 3) := by decide +kernel
theorem dL_law_545 : decode cL_law 545 = .ok (.if_icmp .eq 365, 3) := by decide +kernel
theorem dL_law_548 : decode cL_law 548 = .ok (.iconst 0, 1) := by decide +kernel
theorem dL_law_549 : decode cL_law 549 = .ok (.ireturn, 1) := by decide +kernel
theorem dL_law_550 : decode cL_law 550 = .ok (.aload_n 1, 1) := by decide +kernel
theorem dL_law_551 : decode cL_law 551 = .ok (.aload_n 0, 1) := by decide +kernel
theorem dL_law_552 : decode cL_law 552 = .ok (.iload_n 3, 1) := by decide +kernel
theorem dL_law_553 : decode cL_law 553 = .ok (.iconst 1, 1) := by decide +kernel
theorem dL_law_554 : decode cL_law 554 = .ok (.iadd, 1) := by decide +kernel
theorem dL_law_555 : decode cL_law 555 = .ok (.iaload, 1) := by decide +kernel
theorem dL_law_556 : decode cL_law 556 = .ok (.aload_n 0, 1) := by decide +kernel
theorem dL_law_557 : decode cL_law 557 = .ok (.iload_n 3, 1) := by decide +kernel
theorem dL_law_558 : decode cL_law 558 = .ok (.iconst 2, 1) := by decide +kernel
theorem dL_law_559 : decode cL_law 559 = .ok (.iadd, 1) := by decide +kernel
theorem dL_law_560 : decode cL_law 560 = .ok (.iaload, 1) := by decide +kernel
theorem dL_law_561 : decode cL_law 561 = .ok (.ifCond .eq 7, 3) := by decide +kernel
theorem dL_law_564 : decode cL_law 564 = .ok (.iconst 1, 1) := by decide +kernel
theorem dL_law_565 : decode cL_law 565 = .ok (.goto 4, 3) := by decide +kernel
theorem dL_law_568 : decode cL_law 568 = .ok (.iconst 0, 1) := by decide +kernel
theorem dL_law_569 : decode cL_law 569 = .ok (.aload_n 0, 1) := by decide +kernel
theorem dL_law_570 : decode cL_law 570 = .ok (.iload_n 3, 1) := by decide +kernel
theorem dL_law_571 : decode cL_law 571 = .ok (.iconst 3, 1) := by decide +kernel
theorem dL_law_572 : decode cL_law 572 = .ok (.iadd, 1) := by decide +kernel
theorem dL_law_573 : decode cL_law 573 = .ok (.iaload, 1) := by decide +kernel
theorem dL_law_574 : decode cL_law 574 = .ok (.aload_n 0, 1) := by decide +kernel
theorem dL_law_575 : decode cL_law 575 = .ok (.iload_n 3, 1) := by decide +kernel
theorem dL_law_576 : decode cL_law 576 = .ok (.iconst 4, 1) := by decide +kernel
theorem dL_law_577 : decode cL_law 577 = .ok (.iadd, 1) := by decide +kernel
theorem dL_law_578 : decode cL_law 578 = .ok (.iaload, 1) := by decide +kernel
theorem dL_law_579 : decode cL_law 579 = .ok (.invokevirtual 73, 3) := by decide +kernel
theorem dL_law_582 : decode cL_law 582 = .ok (.aload_n 2, 1) := by decide +kernel
theorem dL_law_583 : decode cL_law 583 = .ok (.aload_n 0, 1) := by decide +kernel
theorem dL_law_584 : decode cL_law 584 = .ok (.iload_n 3, 1) := by decide +kernel
theorem dL_law_585 : decode cL_law 585 = .ok (.iconst 1, 1) := by decide +kernel
theorem dL_law_586 : decode cL_law 586 = .ok (.iadd, 1) := by decide +kernel
theorem dL_law_587 : decode cL_law 587 = .ok (.iaload, 1) := by decide +kernel
theorem dL_law_588 : decode cL_law 588 = .ok (.aload_n 0, 1) := by decide +kernel
theorem dL_law_589 : decode cL_law 589 = .ok (.iload_n 3, 1) := by decide +kernel
theorem dL_law_590 : decode cL_law 590 = .ok (.iconst 2, 1) := by decide +kernel
theorem dL_law_591 : decode cL_law 591 = .ok (.iadd, 1) := by decide +kernel
theorem dL_law_592 : decode cL_law 592 = .ok (.iaload, 1) := by decide +kernel
theorem dL_law_593 : decode cL_law 593 = .ok (.ifCond .eq 7, 3) := by decide +kernel
theorem dL_law_596 : decode cL_law 596 = .ok (.iconst 1, 1) := by decide +kernel
theorem dL_law_597 : decode cL_law 597 = .ok (.goto 4, 3) := by decide +kernel
theorem dL_law_600 : decode cL_law 600 = .ok (.iconst 0, 1) := by decide +kernel
theorem dL_law_601 : decode cL_law 601 = .ok (.aload_n 0, 1) := by decide +kernel
theorem dL_law_602 : decode cL_law 602 = .ok (.iload_n 3, 1) := by decide +kernel
theorem dL_law_603 : decode cL_law 603 = .ok (.iconst 3, 1) := by decide +kernel
theorem dL_law_604 : decode cL_law 604 = .ok (.iadd, 1) := by decide +kernel
theorem dL_law_605 : decode cL_law 605 = .ok (.iaload, 1) := by decide +kernel
theorem dL_law_606 : decode cL_law 606 = .ok (.aload_n 0, 1) := by decide +kernel
theorem dL_law_607 : decode cL_law 607 = .ok (.iload_n 3, 1) := by decide +kernel
theorem dL_law_608 : decode cL_law 608 = .ok (.iconst 4, 1) := by decide +kernel
theorem dL_law_609 : decode cL_law 609 = .ok (.iadd, 1) := by decide +kernel
theorem dL_law_610 : decode cL_law 610 = .ok (.iaload, 1) := by decide +kernel
theorem dL_law_611 : decode cL_law 611 = .ok (.invokevirtual 77, 3) := by decide +kernel
theorem dL_law_614 : decode cL_law 614 = .ok (.if_icmp .eq 296, 3) := by decide +kernel
theorem dL_law_617 : decode cL_law 617 = .ok (.iconst 0, 1) := by decide +kernel
theorem dL_law_618 : decode cL_law 618 = .ok (.ireturn, 1) := by decide +kernel
theorem dL_law_619 : decode cL_law 619 = .ok (.aload_n 1, 1) := by decide +kernel
theorem dL_law_620 : decode cL_law 620 = .ok (.invokevirtual 78, 3) := by decide +kernel
theorem dL_law_623 : decode cL_law 623 = .ok (.aload_n 2, 1) := by decide +kernel
theorem dL_law_624 : decode cL_law 624 = .ok (.invokevirtual 81, 3) := by decide +kernel
theorem dL_law_627 : decode cL_law 627 = .ok (.if_icmp .eq 283, 3) := by decide +kernel
theorem dL_law_630 : decode cL_law 630 = .ok (.iconst 0, 1) := by decide +kernel
theorem dL_law_631 : decode cL_law 631 = .ok (.ireturn, 1) := by decide +kernel
theorem dL_law_632 : decode cL_law 632 = .ok (.aload_n 1, 1) := by decide +kernel
theorem dL_law_633 : decode cL_law 633 = .ok (.aload_n 0, 1) := by decide +kernel
theorem dL_law_634 : decode cL_law 634 = .ok (.iload_n 3, 1) := by decide +kernel
theorem dL_law_635 : decode cL_law 635 = .ok (.iconst 1, 1) := by decide +kernel
theorem dL_law_636 : decode cL_law 636 = .ok (.iadd, 1) := by decide +kernel
theorem dL_law_637 : decode cL_law 637 = .ok (.iaload, 1) := by decide +kernel
theorem dL_law_638 : decode cL_law 638 = .ok (.aload_n 0, 1) := by decide +kernel
theorem dL_law_639 : decode cL_law 639 = .ok (.iload_n 3, 1) := by decide +kernel
theorem dL_law_640 : decode cL_law 640 = .ok (.iconst 2, 1) := by decide +kernel
theorem dL_law_641 : decode cL_law 641 = .ok (.iadd, 1) := by decide +kernel
theorem dL_law_642 : decode cL_law 642 = .ok (.iaload, 1) := by decide +kernel
theorem dL_law_643 : decode cL_law 643 = .ok (.aload_n 0, 1) := by decide +kernel
theorem dL_law_644 : decode cL_law 644 = .ok (.iload_n 3, 1) := by decide +kernel
theorem dL_law_645 : decode cL_law 645 = .ok (.iconst 3, 1) := by decide +kernel
theorem dL_law_646 : decode cL_law 646 = .ok (.iadd, 1) := by decide +kernel
theorem dL_law_647 : decode cL_law 647 = .ok (.iaload, 1) := by decide +kernel
theorem dL_law_648 : decode cL_law 648 = .ok (.invokevirtual 82, 3) := by decide +kernel
theorem dL_law_651 : decode cL_law 651 = .ok (.aload_n 2, 1) := by decide +kernel
theorem dL_law_652 : decode cL_law 652 = .ok (.aload_n 0, 1) := by decide +kernel
theorem dL_law_653 : decode cL_law 653 = .ok (.iload_n 3, 1) := by decide +kernel
theorem dL_law_654 : decode cL_law 654 = .ok (.iconst 1, 1) := by decide +kernel
theorem dL_law_655 : decode cL_law 655 = .ok (.iadd, 1) := by decide +kernel
theorem dL_law_656 : decode cL_law 656 = .ok (.iaload, 1) := by decide +kernel
theorem dL_law_657 : decode cL_law 657 = .ok (.aload_n 0, 1) := by decide +kernel
theorem dL_law_658 : decode cL_law 658 = .ok (.iload_n 3, 1) := by decide +kernel
theorem dL_law_659 : decode cL_law 659 = .ok (.iconst 2, 1) := by decide +kernel
theorem dL_law_660 : decode cL_law 660 = .ok (.iadd, 1) := by decide +kernel
theorem dL_law_661 : decode cL_law 661 = .ok (.iaload, 1) := by decide +kernel
theorem dL_law_662 : decode cL_law 662 = .ok (.aload_n 0, 1) := by decide +kernel
theorem dL_law_663 : decode cL_law 663 = .ok (.iload_n 3, 1) := by decide +kernel
theorem dL_law_664 : decode cL_law 664 = .ok (.iconst 3, 1) := by decide +kernel
theorem dL_law_665 : decode cL_law 665 = .ok (.iadd, 1) := by decide +kernel
theorem dL_law_666 : decode cL_law 666 = .ok (.iaload, 1) := by decide +kernel
theorem dL_law_667 : decode cL_law 667 = .ok (.invokevirtual 86, 3) := by decide +kernel
theorem dL_law_670 : decode cL_law 670 = .ok (.if_icmp .eq 240, 3) := by decide +kernel
theorem dL_law_673 : decode cL_law 673 = .ok (.iconst 0, 1) := by decide +kernel
theorem dL_law_674 : decode cL_law 674 = .ok (.ireturn, 1) := by decide +kernel
theorem dL_law_675 : decode cL_law 675 = .ok (.aload_n 1, 1) := by decide +kernel
theorem dL_law_676 : decode cL_law 676 = .ok (.invokevirtual 87, 3) := by decide +kernel
theorem dL_law_679 : decode cL_law 679 = .ok (.aload_n 2, 1) := by decide +kernel
theorem dL_law_680 : decode cL_law 680 = .ok (.invokevirtual 90, 3) := by decide +kernel
theorem dL_law_683 : decode cL_law 683 = .ok (.if_icmp .eq 227, 3) := by decide +kernel
theorem dL_law_686 : decode cL_law 686 = .ok (.iconst 0, 1) := by decide +kernel
theorem dL_law_687 : decode cL_law 687 = .ok (.ireturn, 1) := by decide +kernel
theorem dL_law_688 : decode cL_law 688 = .ok (.aload_n 1, 1) := by decide +kernel
theorem dL_law_689 : decode cL_law 689 = .ok (.invokevirtual 91, 3) := by decide +kernel
theorem dL_law_692 : decode cL_law 692 = .ok (.aload_n 2, 1) := by decide +kernel
theorem dL_law_693 : decode cL_law 693 = .ok (.invokevirtual 94, 3) := by decide +kernel
theorem dL_law_696 : decode cL_law 696 = .ok (.if_icmp .eq 214, 3) := by decide +kernel
theorem dL_law_699 : decode cL_law 699 = .ok (.iconst 0, 1) := by decide +kernel
theorem dL_law_700 : decode cL_law 700 = .ok (.ireturn, 1) := by decide +kernel
theorem dL_law_701 : decode cL_law 701 = .ok (.aload_n 1, 1) := by decide +kernel
theorem dL_law_702 : decode cL_law 702 = .ok (.aload_n 0, 1) := by decide +kernel
theorem dL_law_703 : decode cL_law 703 = .ok (.iload_n 3, 1) := by decide +kernel
theorem dL_law_704 : decode cL_law 704 = .ok (.iconst 1, 1) := by decide +kernel
theorem dL_law_705 : decode cL_law 705 = .ok (.iadd, 1) := by decide +kernel
theorem dL_law_706 : decode cL_law 706 = .ok (.iaload, 1) := by decide +kernel
theorem dL_law_707 : decode cL_law 707 = .ok (.aload_n 0, 1) := by decide +kernel
theorem dL_law_708 : decode cL_law 708 = .ok (.iload_n 3, 1) := by decide +kernel
theorem dL_law_709 : decode cL_law 709 = .ok (.iconst 2, 1) := by decide +kernel
theorem dL_law_710 : decode cL_law 710 = .ok (.iadd, 1) := by decide +kernel
theorem dL_law_711 : decode cL_law 711 = .ok (.iaload, 1) := by decide +kernel
theorem dL_law_712 : decode cL_law 712 = .ok (.aload_n 0, 1) := by decide +kernel
theorem dL_law_713 : decode cL_law 713 = .ok (.iload_n 3, 1) := by decide +kernel
theorem dL_law_714 : decode cL_law 714 = .ok (.iconst 3, 1) := by decide +kernel
theorem dL_law_715 : decode cL_law 715 = .ok (.iadd, 1) := by decide +kernel
theorem dL_law_716 : decode cL_law 716 = .ok (.iaload, 1) := by decide +kernel
theorem dL_law_717 : decode cL_law 717 = .ok (.invokevirtual 95, 3) := by decide +kernel
theorem dL_law_720 : decode cL_law 720 = .ok (.aload_n 2, 1) := by decide +kernel
theorem dL_law_721 : decode cL_law 721 = .ok (.aload_n 0, 1) := by decide +kernel
theorem dL_law_722 : decode cL_law 722 = .ok (.iload_n 3, 1) := by decide +kernel
theorem dL_law_723 : decode cL_law 723 = .ok (.iconst 1, 1) := by decide +kernel
theorem dL_law_724 : decode cL_law 724 = .ok (.iadd, 1) := by decide +kernel
theorem dL_law_725 : decode cL_law 725 = .ok (.iaload, 1) := by decide +kernel
theorem dL_law_726 : decode cL_law 726 = .ok (.aload_n 0, 1) := by decide +kernel
theorem dL_law_727 : decode cL_law 727 = .ok (.iload_n 3, 1) := by decide +kernel
theorem dL_law_728 : decode cL_law 728 = .ok (.iconst 2, 1) := by decide +kernel
theorem dL_law_729 : decode cL_law 729 = .ok (.iadd, 1) := by decide +kernel
theorem dL_law_730 : decode cL_law 730 = .ok (.iaload, 1) := by decide +kernel
theorem dL_law_731 : decode cL_law 731 = .ok (.aload_n 0, 1) := by decide +kernel
theorem dL_law_732 : decode cL_law 732 = .ok (.iload_n 3, 1) := by decide +kernel
theorem dL_law_733 : decode cL_law 733 = .ok (.iconst 3, 1) := by decide +kernel
theorem dL_law_734 : decode cL_law 734 = .ok (.iadd, 1) := by decide +kernel
theorem dL_law_735 : decode cL_law 735 = .ok (.iaload, 1) := by decide +kernel
theorem dL_law_736 : decode cL_law 736 = .ok (.invokevirtual 98, 3) := by decide +kernel
theorem dL_law_739 : decode cL_law 739 = .ok (.if_icmp .eq 171, 3) := by decide +kernel
theorem dL_law_742 : decode cL_law 742 = .ok (.iconst 0, 1) := by decide +kernel
theorem dL_law_743 : decode cL_law 743 = .ok (.ireturn, 1) := by decide +kernel
theorem dL_law_744 : decode cL_law 744 = .ok (.aload_n 1, 1) := by decide +kernel
theorem dL_law_745 : decode cL_law 745 = .ok (.aload_n 0, 1) := by decide +kernel
theorem dL_law_746 : decode cL_law 746 = .ok (.iload_n 3, 1) := by decide +kernel
theorem dL_law_747 : decode cL_law 747 = .ok (.iconst 1, 1) := by decide +kernel
theorem dL_law_748 : decode cL_law 748 = .ok (.iadd, 1) := by decide +kernel
theorem dL_law_749 : decode cL_law 749 = .ok (.iaload, 1) := by decide +kernel
theorem dL_law_750 : decode cL_law 750 = .ok (.aload_n 0, 1) := by decide +kernel
theorem dL_law_751 : decode cL_law 751 = .ok (.iload_n 3, 1) := by decide +kernel
theorem dL_law_752 : decode cL_law 752 = .ok (.iconst 2, 1) := by decide +kernel
theorem dL_law_753 : decode cL_law 753 = .ok (.iadd, 1) := by decide +kernel
theorem dL_law_754 : decode cL_law 754 = .ok (.iaload, 1) := by decide +kernel
theorem dL_law_755 : decode cL_law 755 = .ok (.aload_n 0, 1) := by decide +kernel
theorem dL_law_756 : decode cL_law 756 = .ok (.iload_n 3, 1) := by decide +kernel
theorem dL_law_757 : decode cL_law 757 = .ok (.iconst 3, 1) := by decide +kernel
theorem dL_law_758 : decode cL_law 758 = .ok (.iadd, 1) := by decide +kernel
theorem dL_law_759 : decode cL_law 759 = .ok (.iaload, 1) := by decide +kernel
theorem dL_law_760 : decode cL_law 760 = .ok (.aload_n 0, 1) := by decide +kernel
theorem dL_law_761 : decode cL_law 761 = .ok (.iload_n 3, 1) := by decide +kernel
theorem dL_law_762 : decode cL_law 762 = .ok (.iconst 4, 1) := by decide +kernel
theorem dL_law_763 : decode cL_law 763 = .ok (.iadd, 1) := by decide +kernel
theorem dL_law_764 : decode cL_law 764 = .ok (.iaload, 1) := by decide +kernel
theorem dL_law_765 : decode cL_law 765 = .ok (.invokevirtual 99, 3) := by decide +kernel
theorem dL_law_768 : decode cL_law 768 = .ok (.aload_n 2, 1) := by decide +kernel
theorem dL_law_769 : decode cL_law 769 = .ok (.aload_n 0, 1) := by decide +kernel
theorem dL_law_770 : decode cL_law 770 = .ok (.iload_n 3, 1) := by decide +kernel
theorem dL_law_771 : decode cL_law 771 = .ok (.iconst 1, 1) := by decide +kernel
theorem dL_law_772 : decode cL_law 772 = .ok (.iadd, 1) := by decide +kernel
theorem dL_law_773 : decode cL_law 773 = .ok (.iaload, 1) := by decide +kernel
theorem dL_law_774 : decode cL_law 774 = .ok (.aload_n 0, 1) := by decide +kernel
theorem dL_law_775 : decode cL_law 775 = .ok (.iload_n 3, 1) := by decide +kernel
theorem dL_law_776 : decode cL_law 776 = .ok (.iconst 2, 1) := by decide +kernel
theorem dL_law_777 : decode cL_law 777 = .ok (.iadd, 1) := by decide +kernel
theorem dL_law_778 : decode cL_law 778 = .ok (.iaload, 1) := by decide +kernel
theorem dL_law_779 : decode cL_law 779 = .ok (.aload_n 0, 1) := by decide +kernel
theorem dL_law_780 : decode cL_law 780 = .ok (.iload_n 3, 1) := by decide +kernel
theorem dL_law_781 : decode cL_law 781 = .ok (.iconst 3, 1) := by decide +kernel
theorem dL_law_782 : decode cL_law 782 = .ok (.iadd, 1) := by decide +kernel
theorem dL_law_783 : decode cL_law 783 = .ok (.iaload, 1) := by decide +kernel
theorem dL_law_784 : decode cL_law 784 = .ok (.aload_n 0, 1) := by decide +kernel
theorem dL_law_785 : decode cL_law 785 = .ok (.iload_n 3, 1) := by decide +kernel
theorem dL_law_786 : decode cL_law 786 = .ok (.iconst 4, 1) := by decide +kernel
theorem dL_law_787 : decode cL_law 787 = .ok (.iadd, 1) := by decide +kernel
theorem dL_law_788 : decode cL_law 788 = .ok (.iaload, 1) := by decide +kernel
theorem dL_law_789 : decode cL_law 789 = .ok (.invokevirtual 102, 3) := by decide +kernel
theorem dL_law_792 : decode cL_law 792 = .ok (.if_icmp .eq 118, 3) := by decide +kernel
theorem dL_law_795 : decode cL_law 795 = .ok (.iconst 0, 1) := by decide +kernel
theorem dL_law_796 : decode cL_law 796 = .ok (.ireturn, 1) := by decide +kernel
theorem dL_law_797 : decode cL_law 797 = .ok (.aload_n 1, 1) := by decide +kernel
theorem dL_law_798 : decode cL_law 798 = .ok (.aload_n 0, 1) := by decide +kernel
theorem dL_law_799 : decode cL_law 799 = .ok (.iload_n 3, 1) := by decide +kernel
theorem dL_law_800 : decode cL_law 800 = .ok (.iconst 1, 1) := by decide +kernel
theorem dL_law_801 : decode cL_law 801 = .ok (.iadd, 1) := by decide +kernel
theorem dL_law_802 : decode cL_law 802 = .ok (.iaload, 1) := by decide +kernel
theorem dL_law_803 : decode cL_law 803 = .ok (.aload_n 0, 1) := by decide +kernel
theorem dL_law_804 : decode cL_law 804 = .ok (.iload_n 3, 1) := by decide +kernel
theorem dL_law_805 : decode cL_law 805 = .ok (.iconst 2, 1) := by decide +kernel
theorem dL_law_806 : decode cL_law 806 = .ok (.iadd, 1) := by decide +kernel
theorem dL_law_807 : decode cL_law 807 = .ok (.iaload, 1) := by decide +kernel
theorem dL_law_808 : decode cL_law 808 = .ok (.aload_n 0, 1) := by decide +kernel
theorem dL_law_809 : decode cL_law 809 = .ok (.iload_n 3, 1) := by decide +kernel
theorem dL_law_810 : decode cL_law 810 = .ok (.iconst 3, 1) := by decide +kernel
theorem dL_law_811 : decode cL_law 811 = .ok (.iadd, 1) := by decide +kernel
theorem dL_law_812 : decode cL_law 812 = .ok (.iaload, 1) := by decide +kernel
theorem dL_law_813 : decode cL_law 813 = .ok (.aload_n 0, 1) := by decide +kernel
theorem dL_law_814 : decode cL_law 814 = .ok (.iload_n 3, 1) := by decide +kernel
theorem dL_law_815 : decode cL_law 815 = .ok (.iconst 4, 1) := by decide +kernel
theorem dL_law_816 : decode cL_law 816 = .ok (.iadd, 1) := by decide +kernel
theorem dL_law_817 : decode cL_law 817 = .ok (.iaload, 1) := by decide +kernel
theorem dL_law_818 : decode cL_law 818 = .ok (.invokevirtual 103, 3) := by decide +kernel
theorem dL_law_821 : decode cL_law 821 = .ok (.aload_n 2, 1) := by decide +kernel
theorem dL_law_822 : decode cL_law 822 = .ok (.aload_n 0, 1) := by decide +kernel
theorem dL_law_823 : decode cL_law 823 = .ok (.iload_n 3, 1) := by decide +kernel
theorem dL_law_824 : decode cL_law 824 = .ok (.iconst 1, 1) := by decide +kernel
theorem dL_law_825 : decode cL_law 825 = .ok (.iadd, 1) := by decide +kernel
theorem dL_law_826 : decode cL_law 826 = .ok (.iaload, 1) := by decide +kernel
theorem dL_law_827 : decode cL_law 827 = .ok (.aload_n 0, 1) := by decide +kernel
theorem dL_law_828 : decode cL_law 828 = .ok (.iload_n 3, 1) := by decide +kernel
theorem dL_law_829 : decode cL_law 829 = .ok (.iconst 2, 1) := by decide +kernel
theorem dL_law_830 : decode cL_law 830 = .ok (.iadd, 1) := by decide +kernel
theorem dL_law_831 : decode cL_law 831 = .ok (.iaload, 1) := by decide +kernel
theorem dL_law_832 : decode cL_law 832 = .ok (.aload_n 0, 1) := by decide +kernel
theorem dL_law_833 : decode cL_law 833 = .ok (.iload_n 3, 1) := by decide +kernel
theorem dL_law_834 : decode cL_law 834 = .ok (.iconst 3, 1) := by decide +kernel
theorem dL_law_835 : decode cL_law 835 = .ok (.iadd, 1) := by decide +kernel
theorem dL_law_836 : decode cL_law 836 = .ok (.iaload, 1) := by decide +kernel
theorem dL_law_837 : decode cL_law 837 = .ok (.aload_n 0, 1) := by decide +kernel
theorem dL_law_838 : decode cL_law 838 = .ok (.iload_n 3, 1) := by decide +kernel
theorem dL_law_839 : decode cL_law 839 = .ok (.iconst 4, 1) := by decide +kernel
theorem dL_law_840 : decode cL_law 840 = .ok (.iadd, 1) := by decide +kernel
theorem dL_law_841 : decode cL_law 841 = .ok (.iaload, 1) := by decide +kernel
theorem dL_law_842 : decode cL_law 842 = .ok (.invokevirtual 106, 3) := by decide +kernel
theorem dL_law_845 : decode cL_law 845 = .ok (.if_icmp .eq 65, 3) := by decide +kernel
theorem dL_law_848 : decode cL_law 848 = .ok (.iconst 0, 1) := by decide +kernel
theorem dL_law_849 : decode cL_law 849 = .ok (.ireturn, 1) := by decide +kernel
theorem dL_law_850 : decode cL_law 850 = .ok (.aload_n 1, 1) := by decide +kernel
theorem dL_law_851 : decode cL_law 851 = .ok (.aload_n 0, 1) := by decide +kernel
theorem dL_law_852 : decode cL_law 852 = .ok (.iload_n 3, 1) := by decide +kernel
theorem dL_law_853 : decode cL_law 853 = .ok (.iconst 1, 1) := by decide +kernel
theorem dL_law_854 : decode cL_law 854 = .ok (.iadd, 1) := by decide +kernel
theorem dL_law_855 : decode cL_law 855 = .ok (.iaload, 1) := by decide +kernel
theorem dL_law_856 : decode cL_law 856 = .ok (.invokevirtual 107, 3) := by decide +kernel
theorem dL_law_859 : decode cL_law 859 = .ok (.aload_n 2, 1) := by decide +kernel
theorem dL_law_860 : decode cL_law 860 = .ok (.aload_n 0, 1) := by decide +kernel
theorem dL_law_861 : decode cL_law 861 = .ok (.iload_n 3, 1) := by decide +kernel
theorem dL_law_862 : decode cL_law 862 = .ok (.iconst 1, 1) := by decide +kernel
theorem dL_law_863 : decode cL_law 863 = .ok (.iadd, 1) := by decide +kernel
theorem dL_law_864 : decode cL_law 864 = .ok (.iaload, 1) := by decide +kernel
theorem dL_law_865 : decode cL_law 865 = .ok (.invokevirtual 110, 3) := by decide +kernel
theorem dL_law_868 : decode cL_law 868 = .ok (.if_icmp .eq 42, 3) := by decide +kernel
theorem dL_law_871 : decode cL_law 871 = .ok (.iconst 0, 1) := by decide +kernel
theorem dL_law_872 : decode cL_law 872 = .ok (.ireturn, 1) := by decide +kernel
theorem dL_law_873 : decode cL_law 873 = .ok (.aload_n 1, 1) := by decide +kernel
theorem dL_law_874 : decode cL_law 874 = .ok (.aload_n 0, 1) := by decide +kernel
theorem dL_law_875 : decode cL_law 875 = .ok (.iload_n 3, 1) := by decide +kernel
theorem dL_law_876 : decode cL_law 876 = .ok (.iconst 1, 1) := by decide +kernel
theorem dL_law_877 : decode cL_law 877 = .ok (.iadd, 1) := by decide +kernel
theorem dL_law_878 : decode cL_law 878 = .ok (.iaload, 1) := by decide +kernel
theorem dL_law_879 : decode cL_law 879 = .ok (.invokevirtual 111, 3) := by decide +kernel
theorem dL_law_882 : decode cL_law 882 = .ok (.aload_n 2, 1) := by decide +kernel
theorem dL_law_883 : decode cL_law 883 = .ok (.aload_n 0, 1) := by decide +kernel
theorem dL_law_884 : decode cL_law 884 = .ok (.iload_n 3, 1) := by decide +kernel
theorem dL_law_885 : decode cL_law 885 = .ok (.iconst 1, 1) := by decide +kernel
theorem dL_law_886 : decode cL_law 886 = .ok (.iadd, 1) := by decide +kernel
theorem dL_law_887 : decode cL_law 887 = .ok (.iaload, 1) := by decide +kernel
theorem dL_law_888 : decode cL_law 888 = .ok (.invokevirtual 114, 3) := by decide +kernel
theorem dL_law_891 : decode cL_law 891 = .ok (.if_icmp .eq 19, 3) := by decide +kernel
theorem dL_law_894 : decode cL_law 894 = .ok (.iconst 0, 1) := by decide +kernel
theorem dL_law_895 : decode cL_law 895 = .ok (.ireturn, 1) := by decide +kernel
theorem dL_law_896 : decode cL_law 896 = .ok (.aload_n 1, 1) := by decide +kernel
theorem dL_law_897 : decode cL_law 897 = .ok (.invokevirtual 115, 3) := by decide +kernel
theorem dL_law_900 : decode cL_law 900 = .ok (.aload_n 2, 1) := by decide +kernel
theorem dL_law_901 : decode cL_law 901 = .ok (.invokevirtual 119, 3) := by decide +kernel
theorem dL_law_904 : decode cL_law 904 = .ok (.lcmp, 1) := by decide +kernel
theorem dL_law_905 : decode cL_law 905 = .ok (.ifCond .eq 5, 3) := by decide +kernel
theorem dL_law_908 : decode cL_law 908 = .ok (.iconst 0, 1) := by decide +kernel
theorem dL_law_909 : decode cL_law 909 = .ok (.ireturn, 1) := by decide +kernel
theorem dL_law_910 : decode cL_law 910 = .ok (.iinc 3 5, 3) := by decide +kernel
theorem dL_law_913 : decode cL_law 913 = .ok (.goto (-895), 3) := by decide +kernel
theorem dL_law_916 : decode cL_law 916 = .ok (.iconst 1, 1) := by decide +kernel
theorem dL_law_917 : decode cL_law 917 = .ok (.ireturn, 1) := by decide +kernel
end
section
def Ey (X : Ctx) (n0 : Nat) : Prop := match X with
  | (_, _, _, _, _, _, _, _, _, _, _, _, E, _, _) => ∀ (a a' : Nat → Nat), E a → (∀ q, (q < n0 ∨ 1000 ≤ q) → a' q = a q) → E a'
theorem Ctr.of {nm : Nm} {y : MethodName} {ws ws' : List Cond} {rm : Room} {S : List Shp} {σ : Sg} {vs : List Value} {ret : Option Value} {σ' : Sg} {cc : ByteArray} {maxL : Nat} {rty : Option FieldType} (hy : plainName y.cls = true) (hw : ws = Cond.code y cc maxL rty :: ws') (hv : (lg_sl vs).length ≤ maxL)
    (body : ∀ X : Ctx, Cx nm X cc maxL y.cls ws rty rm → Rx nm X 0 0 ret S σ' → XW nm X maxL 0 0 S σ 0 (lv_args 0 vs) []) : Ctr nm y ws rm S σ vs ret σ' := by
  intro l D ac a sz
  refine Met.ofW (cc := cc) (maxL := maxL) (ret := rty) hy hw ?_
  intro p e s m args below meth c s₁ B hml hv0
  obtain ⟨rfl, hsz, hP, hK, hN, hD0⟩ := hv0
  subst hsz
  have hD := hD0.self (sz := s.heap.size)
  have hl := lv_entry (vs.map (cv a)) (n := maxL) (by rw [lgsl_map]; exact hv)
  rw [lg_entry_eq]
  rw [args_map] at hl
  exact body (p, l, e, (headSpec ws rm).room, s, m, (vs.map (cv a)).toArray, below, meth, c, D, ac, fun a' => a' = a, va_A (Wd ac a σ 0 S) s.heap.size, MQ below (QX nm.1 D ac (fun a' => a' = a) (va_A (Wd ac a σ 0 S) s.heap.size) ret S σ') (vs.map (cv a)).toArray s 0 0 (va_A (Wd ac a σ 0 S) s.heap.size)) ⟨⟨B.exec, B.bytes, hml, findClass_of_methodNamed B.named, atoms_spec (ws := ws) B.pre⟩, B.returns, B.notSynchronized, hK, hN, fun q h => Or.inr h, rfl⟩ rfl a s.heap [] _ rfl hP hD va_S.rf hl
theorem CtrA.of {nm : Nm} {y : MethodName} {ws ws' : List Cond} {rm : Room} {mc ms : Nat} {S S' : List Shp} {σ : Sg} {vs : List Value} {σ' : Sg} {cc : ByteArray} {maxL : Nat} (hy : plainName y.cls = true) (hw : ws = Cond.code y cc maxL none :: ws') (hi : y.name = "<init>") (hv : (lg_sl vs).length ≤ maxL)
    (body : ∀ X : Ctx, Cx nm X cc maxL y.cls ws none rm → Ix X → Ey X S.length → Rx nm X mc ms none S' σ' → XW nm X maxL 0 0 S σ 0 (lv_args 0 vs) []) : CtrA nm y ws rm mc ms S σ vs S' σ' := by
  intro l D ac a sz
  refine Met.ofW (cc := cc) (maxL := maxL) (ret := none) hy hw ?_
  intro p e s m args below meth c s₁ B hml hv0
  obtain ⟨rfl, hsz, hP, hK, hN, hD0⟩ := hv0
  subst hsz
  have hD := hD0.self (sz := s.heap.size)
  have hl := lv_entry (vs.map (cv a)) (n := maxL) (by rw [lgsl_map]; exact hv)
  have hin : meth.name = "<init>" := (name_of_methodNamed B.named B.method).1.trans hi
  rw [lg_entry_eq]
  rw [args_map] at hl
  exact body (p, l, e, (headSpec ws rm).room, s, m, (vs.map (cv a)).toArray, below, meth, c, D, ac, fun a' => ∀ q, q < S.length → a' q = a q, va_A (Wd ac a σ 0 S) s.heap.size, MQ below (QX nm.1 D ac (fun a' => ∀ q, q < S.length → a' q = a q) (va_A (Wd ac a σ 0 S) s.heap.size) none S' σ') (vs.map (cv a)).toArray s mc ms (va_A (Wd ac a σ 0 S) s.heap.size)) ⟨⟨B.exec, B.bytes, hml, findClass_of_methodNamed B.named, atoms_spec (ws := ws) B.pre⟩, B.returns, B.notSynchronized, hK, hN, fun q h => Or.inr h, rfl⟩ hin (fun a1 a2 h1 h2 q hq => (h2 q (Or.inl hq)).trans (h1 q hq)) rfl a s.heap [] _ (fun q _ => rfl) hP hD va_S.rf hl
theorem QX_blind {nm : Nm} {D : va_G} {ac : Nat → ClassId} {a : Nat → Nat} {S : List Shp} {σ : Sg} {sz : Nat} {av : List Value} : FrameBlind (va_Pc av (PX nm D ac a S σ sz)) := by
  intro a0 U g mk q
  obtain ⟨q0, q1, qP, qK, qN, qD⟩ := q
  exact ⟨q0, q1, qP, va_K.moved (u := U) (U := U.calling g mk a0) (Vm.Alike.refl U.vm) qK, NWok.same (u := U) (U := U.calling g mk a0) rfl qN, qD⟩
section RUN
variable {p : Program} {l : Launch} {e : Env} {R : Room} {s : State} {m : MethodId} {args : Array Value} {below : List Frame} {meth : Method} {c : Code} {H : Heap} {locs : List Loc} {ce sl pc mc ms : Nat} {Q : State → Prop} {cl : List vw_C} {D : va_G} {ac : Nat → ClassId} {a : Nat → Nat} {S S' : List Shp} {σ σ' : Sg} {A A1 : Nat → Prop} {ret : Option Value} {ls : Array Slot} {st0 rest : List Value} {av : Array Value} {E : (Nat → Nat) → Prop}
theorem run_any (hr : va_Run p l e R s m args below meth c H locs ce sl mc ms (F0 m pc ls st0) rest (QX cl D ac E A1 ret S' σ' av) A1) (hA1 : ∀ q, A1 q → A q) (hS : va_S A s.heap H locs)
    (kk : ∀ (a' : Nat → Nat) (H1 : Heap) (locs1 : List Loc), E a' → va_P D cl (Wd ac a' σ' 0 S') H1 → va_D A1 (Wd ac a' σ' 0 S') → H.size ≤ H1.size → (∀ q : Nat, q < H.size → ¬ A1 q → H1[q]? = H[q]?) → va_S A s.heap H1 locs1 → W p l e R s m args below meth c H1 locs1 (ce + mc) (sl + ms) Q (F0 m (pc + 3) ls (ret.toList ++ rest))) : W p l e R s m args below meth c H locs ce sl Q (F0 m pc ls st0) := by
  intro T hT X
  obtain ⟨v, st₀, t, T', L, h0, X', hL, e1, e2, ⟨hv, ⟨a', hE, hP1, hD1⟩, hz, hk⟩, st⟩ := hr T hT X
  cases hv
  rw [h0] at hz hk
  obtain ⟨t2, b1, b2⟩ := kk a' T'.heap (locs ++ L) hE (by rw [e1]; exact hP1) hD1 (by rw [e1]; exact hz) (fun q h1 h2 => by rw [e1]; exact hk q h1 h2)
    ⟨Nat.le_trans hS.1 (by rw [e1]; exact hz), fun q h1 h2 => by rw [e1, hk q (Nat.lt_of_lt_of_le h1 hS.1) (fun z => h2 (hA1 q z))]; exact hS.2.1 q h1 h2, fun q hq => by
      rcases List.mem_append.mp hq with h | h
      · exact hS.2.2 q h
      · exact hA1 _ (hL q h)⟩ T' rfl X'
  exact ⟨t2, st t2 b1, b2⟩
theorem A1_sub (hD : va_D A (Wd ac a σ 0 S)) (hS : va_S A s.heap H locs) (hA : ∀ q, s.heap.size ≤ q → A q) : ∀ q, va_A (Wd ac a σ 0 S) H.size q → A q := by
  intro q h
  rcases h with ⟨k, e, h⟩ | h
  · exact hD.2 k (q, e) h
  · exact hA q (Nat.le_trans hS.1 h)
end RUN
def LkB (AW : List Cond) (own : String) (index : Nat) (y : MethodName) (bytes : ByteArray) (maxL : Nat) (rt : Option FieldType) (n : Nat) : Prop := Cond.code y bytes maxL rt ∈ AW ∧ Cond.methodLink own index y ∈ AW ∧ Cond.initialized y.cls ∈ AW ∧ y.cls ≠ "java/lang/invoke/MethodHandle" ∧ y.cls ≠ "java/lang/invoke/VarHandle" ∧ (parseMethodDescriptor y.desc).map (fun d => d.parameters.length) = some n
def LkV (AW : List Cond) (own : String) (index : Nat) (y : MethodName) (bytes : ByteArray) (maxL : Nat) (rt : Option FieldType) (n : Nat) : Prop := LkB AW own index y bytes maxL rt n ∧ Cond.instanceMethod y ∈ AW ∧ Cond.selects y.cls y y ∈ AW
def LkS (AW : List Cond) (own : String) (index : Nat) (y : MethodName) (bytes : ByteArray) (maxL : Nat) (rt : Option FieldType) (n : Nat) : Prop := LkB AW own index y bytes maxL rt n ∧ Cond.static y ∈ AW
def LkI (AW : List Cond) (own : String) (index : Nat) (y : MethodName) (bytes : ByteArray) (maxL : Nat) (n : Nat) : Prop := LkB AW own index y bytes maxL none n ∧ Cond.instanceMethod y ∈ AW ∧ y.name = "<init>"
def LkN (nm : Nm) (AW : List Cond) (own : String) (index : Nat) (y : MethodName) (host : String) (bytes : ByteArray) (maxL : Nat) (n : Nat) : Prop := (Cond.code y bytes maxL none ∈ AW ∧ (own, index, y, host) ∈ nm.2.2 ∧ Cond.initialized y.cls ∈ AW ∧ y.cls ≠ "java/lang/invoke/MethodHandle" ∧ y.cls ≠ "java/lang/invoke/VarHandle" ∧ (parseMethodDescriptor y.desc).map (fun d => d.parameters.length) = some n) ∧ Cond.instanceMethod y ∈ AW ∧ y.name = "<init>"
theorem good_all {AW Ts : List Cond} {w : Cond} (hAW : AW.all goodWord = true) (hAT : ∀ w ∈ AW, w ∈ Ts) (h : w ∈ AW) : GoodIn Ts (w :: AW) := by
  intro x hx
  have hx : x ∈ AW := by
    rcases List.mem_cons.mp hx with rfl | hx
    · exact h
    · exact hx
  exact ⟨hAT x hx, good_of_word (List.all_eq_true.mp hAW x hx)⟩
section XC
variable {nm : Nm} {X : Ctx} {cc : ByteArray} {nL ce sl pc : Nat} {own : String} {Ts : List Cond} {rty : Option FieldType} {R0 : Room} {S : List Shp} {σ : Sg} {L L' : List (Nat × Value)} {st : List Value} {β : Type} {out : β}
variable {AW : List Cond} {y : MethodName} {bytes : ByteArray} {maxL index n b ci : Nat} {rt : Option FieldType} {rm : Room} {As rest : List Value} {ret : Option Value} {σ' : Sg} {fl : List (Option Nat)} {T : u_T} {Nn : Nat}
theorem X_callV (C : Cx nm X cc nL own Ts rty R0) (hAW : AW.all goodWord = true) (hAT : ∀ w ∈ AW, w ∈ Ts) (K : LkV AW own index y bytes maxL rt n) (hq : S[b]? = some (.inl (ci, fl))) (hc : nm.1[ci]? = some (y.cls, T, Nn)) (hR : rm.frames + 1 ≤ R0.frames ∧ 8 + (maxL + 11) + rm.locals ≤ R0.locals ∧ rm.cells = 0 ∧ rm.slots = 0 ∧ ce ≤ R0.cells ∧ sl ≤ R0.slots) (hn : As.length = n) (hst : As.reverse ++ .ref b :: rest = st) (hw : (rest.map fun v => v.category).sum ≤ 8) (hret : ∀ a, ret.toList.map (cv a) = ret.toList) (d : decode cc pc = .ok (.invokevirtual index, 3)) (hM : Ctr nm y (Cond.code y bytes maxL rt :: AW) rm S σ (.ref b :: As) ret σ') (k : XW nm X nL ce sl S σ' (pc + 3) L (ret.toList ++ rest)) : XW nm X nL ce sl S σ pc L st := by
  obtain ⟨p, l, e, R, s, m, args, below, meth, c, D, ac, E, A, Q⟩ := X
  obtain ⟨⟨hx, hb, hml, hown, hts⟩, hr, hlk, hK, hN, hA, rfl⟩ := C
  intro a H locs ls hE hP hD hS hl
  obtain ⟨⟨k1, k2, k3, k4⟩, k5, k6⟩ := K
  subst hst
  have hB : CallB R s args own index y bytes maxL rt (Cond.code y bytes maxL rt :: AW) rm 0 0 n := callB_of n hts (good_all hAW hAT k1) rfl hR.2.2.1 hR.2.2.2.1 (hts _ (hAT _ k3)) (hts _ (hAT _ k2)) k4 ⟨hR.1, hR.2.1⟩
  refine run_any (E := fun a' => a' = a) (va_runV (b := a b) (As := As.map (cv a)) (rest := rest.map (cv a)) ⟨hx, hb, hml, hown, hts⟩ (hM l D ac a H.size) ⟨hB, hts _ (hAT _ k5), hts _ (hAT _ k6)⟩ ⟨QX_blind, va_recv hK hP hc (Wd_get0 hq), fun U hU hW => ⟨rfl, by rw [hU], by rw [hU]; exact hP, va_K.moved hW.alike hK, hN.warm hW, hD.weaken (fun _ _ _ _ => trivial)⟩⟩ rfl (by rw [List.length_map]; exact hn) hl.1 (by simp only [List.map_append, List.map_reverse, List.map_cons]; rfl) (lv_room (by rw [cat_sum]; exact hw)) d ⟨hR.2.2.2.2.1, hR.2.2.2.2.2⟩) (A1_sub hD hS hA) hS (fun a' H1 locs1 ha hP1 hD1 _ _ hS1 => ?_)
  subst ha
  have := k a' H1 locs1 ls hE hP1 (hD1.weaken (fun k q _ h => A1_sub hD hS hA q.1 h)) hS1 hl
  rw [List.map_append, hret] at this
  exact this
theorem X_callS (C : Cx nm X cc nL own Ts rty R0) (hAW : AW.all goodWord = true) (hAT : ∀ w ∈ AW, w ∈ Ts) (K : LkS AW own index y bytes maxL rt n) (hR : rm.frames + 1 ≤ R0.frames ∧ 8 + (maxL + 11) + rm.locals ≤ R0.locals ∧ rm.cells = 0 ∧ rm.slots = 0 ∧ ce ≤ R0.cells ∧ sl ≤ R0.slots) (hn : As.length = n) (hst : As.reverse ++ rest = st) (hw : (rest.map fun v => v.category).sum ≤ 8) (hret : ∀ a, ret.toList.map (cv a) = ret.toList) (d : decode cc pc = .ok (.invokestatic index, 3)) (hM : Ctr nm y (Cond.code y bytes maxL rt :: AW) rm S σ As ret σ') (k : XW nm X nL ce sl S σ' (pc + 3) L (ret.toList ++ rest)) : XW nm X nL ce sl S σ pc L st := by
  obtain ⟨p, l, e, R, s, m, args, below, meth, c, D, ac, E, A, Q⟩ := X
  obtain ⟨⟨hx, hb, hml, hown, hts⟩, hr, hlk, hK, hN, hA, rfl⟩ := C
  intro a H locs ls hE hP hD hS hl
  obtain ⟨⟨k1, k2, k3, k4⟩, k5⟩ := K
  subst hst
  have hB : CallB R s args own index y bytes maxL rt (Cond.code y bytes maxL rt :: AW) rm 0 0 n := callB_of n hts (good_all hAW hAT k1) rfl hR.2.2.1 hR.2.2.2.1 (hts _ (hAT _ k3)) (hts _ (hAT _ k2)) k4 ⟨hR.1, hR.2.1⟩
  refine run_any (E := fun a' => a' = a) (va_runS (As := As.map (cv a)) (rest := rest.map (cv a)) ⟨hx, hb, hml, hown, hts⟩ (hM l D ac a H.size) ⟨hB, hts _ (hAT _ k5)⟩ ⟨QX_blind, fun U hU hW => ⟨rfl, by rw [hU], by rw [hU]; exact hP, va_K.moved hW.alike hK, hN.warm hW, hD.weaken (fun _ _ _ _ => trivial)⟩⟩ rfl (by rw [List.length_map]; exact hn) hl.1 (by simp only [List.map_append, List.map_reverse]) (lv_room (by rw [cat_sum]; exact hw)) d ⟨hR.2.2.2.2.1, hR.2.2.2.2.2⟩) (A1_sub hD hS hA) hS (fun a' H1 locs1 ha hP1 hD1 _ _ hS1 => ?_)
  subst ha
  have := k a' H1 locs1 ls hE hP1 (hD1.weaken (fun k q _ h => A1_sub hD hS hA q.1 h)) hS1 hl
  rw [List.map_append, hret] at this
  exact this
theorem X_callVi (C : Cx nm X cc nL own Ts rty R0) (hAW : AW.all goodWord = true) (hAT : ∀ w ∈ AW, w ∈ Ts) (K : LkV AW own index y bytes maxL rt n) (hq : S[b]? = some (.inl (ci, fl))) (hc : nm.1[ci]? = some (y.cls, T, Nn)) (hR : rm.frames + 1 ≤ R0.frames ∧ 8 + (maxL + 11) + rm.locals ≤ R0.locals ∧ rm.cells = 0 ∧ rm.slots = 0 ∧ ce ≤ R0.cells ∧ sl ≤ R0.slots) (hn : As.length = n) (hst : As.reverse ++ .ref b :: rest = st) (hw : (rest.map fun v => v.category).sum ≤ 8) (d : decode cc pc = .ok (.invokevirtual index, 3)) {fc : Option (Int32 × Sg)} {f : Int32 → Sg → Option β} (hf : bd fc f = some out) (hM : ∀ (r : Int32) (σ' : Sg), fc = some (r, σ') → Ctr nm y (Cond.code y bytes maxL rt :: AW) rm S σ (.ref b :: As) (some (.int r)) σ') (k : ∀ (r : Int32) (σ' : Sg), f r σ' = some out → XW nm X nL ce sl S σ' (pc + 3) L (.int r :: rest)) : XW nm X nL ce sl S σ pc L st := by
  obtain ⟨r, σ', h1, h2⟩ := bd_some hf
  exact X_callV C hAW hAT K hq hc hR hn hst hw (fun _ => rfl) d (hM r σ' h1) (k r σ' h2)
theorem X_callSi (C : Cx nm X cc nL own Ts rty R0) (hAW : AW.all goodWord = true) (hAT : ∀ w ∈ AW, w ∈ Ts) (K : LkS AW own index y bytes maxL rt n) (hR : rm.frames + 1 ≤ R0.frames ∧ 8 + (maxL + 11) + rm.locals ≤ R0.locals ∧ rm.cells = 0 ∧ rm.slots = 0 ∧ ce ≤ R0.cells ∧ sl ≤ R0.slots) (hn : As.length = n) (hst : As.reverse ++ rest = st) (hw : (rest.map fun v => v.category).sum ≤ 8) (d : decode cc pc = .ok (.invokestatic index, 3)) {fc : Option (Int32 × Sg)} {f : Int32 → Sg → Option β} (hf : bd fc f = some out) (hM : ∀ (r : Int32) (σ' : Sg), fc = some (r, σ') → Ctr nm y (Cond.code y bytes maxL rt :: AW) rm S σ As (some (.int r)) σ') (k : ∀ (r : Int32) (σ' : Sg), f r σ' = some out → XW nm X nL ce sl S σ' (pc + 3) L (.int r :: rest)) : XW nm X nL ce sl S σ pc L st := by
  obtain ⟨r, σ', h1, h2⟩ := bd_some hf
  exact X_callS C hAW hAT K hR hn hst hw (fun _ => rfl) d (hM r σ' h1) (k r σ' h2)
theorem X_callVl (C : Cx nm X cc nL own Ts rty R0) (hAW : AW.all goodWord = true) (hAT : ∀ w ∈ AW, w ∈ Ts) (K : LkV AW own index y bytes maxL rt n) (hq : S[b]? = some (.inl (ci, fl))) (hc : nm.1[ci]? = some (y.cls, T, Nn)) (hR : rm.frames + 1 ≤ R0.frames ∧ 8 + (maxL + 11) + rm.locals ≤ R0.locals ∧ rm.cells = 0 ∧ rm.slots = 0 ∧ ce ≤ R0.cells ∧ sl ≤ R0.slots) (hn : As.length = n) (hst : As.reverse ++ .ref b :: rest = st) (hw : (rest.map fun v => v.category).sum ≤ 8) (d : decode cc pc = .ok (.invokevirtual index, 3)) {fc : Option (Int64 × Sg)} {f : Int64 → Sg → Option β} (hf : bdl fc f = some out) (hM : ∀ (r : Int64) (σ' : Sg), fc = some (r, σ') → Ctr nm y (Cond.code y bytes maxL rt :: AW) rm S σ (.ref b :: As) (some (.long r)) σ') (k : ∀ (r : Int64) (σ' : Sg), f r σ' = some out → XW nm X nL ce sl S σ' (pc + 3) L (.long r :: rest)) : XW nm X nL ce sl S σ pc L st := by
  obtain ⟨r, σ', h1, h2⟩ := bdl_some hf
  exact X_callV C hAW hAT K hq hc hR hn hst hw (fun _ => rfl) d (hM r σ' h1) (k r σ' h2)
theorem X_callSl (C : Cx nm X cc nL own Ts rty R0) (hAW : AW.all goodWord = true) (hAT : ∀ w ∈ AW, w ∈ Ts) (K : LkS AW own index y bytes maxL rt n) (hR : rm.frames + 1 ≤ R0.frames ∧ 8 + (maxL + 11) + rm.locals ≤ R0.locals ∧ rm.cells = 0 ∧ rm.slots = 0 ∧ ce ≤ R0.cells ∧ sl ≤ R0.slots) (hn : As.length = n) (hst : As.reverse ++ rest = st) (hw : (rest.map fun v => v.category).sum ≤ 8) (d : decode cc pc = .ok (.invokestatic index, 3)) {fc : Option (Int64 × Sg)} {f : Int64 → Sg → Option β} (hf : bdl fc f = some out) (hM : ∀ (r : Int64) (σ' : Sg), fc = some (r, σ') → Ctr nm y (Cond.code y bytes maxL rt :: AW) rm S σ As (some (.long r)) σ') (k : ∀ (r : Int64) (σ' : Sg), f r σ' = some out → XW nm X nL ce sl S σ' (pc + 3) L (.long r :: rest)) : XW nm X nL ce sl S σ pc L st := by
  obtain ⟨r, σ', h1, h2⟩ := bdl_some hf
  exact X_callS C hAW hAT K hR hn hst hw (fun _ => rfl) d (hM r σ' h1) (k r σ' h2)
theorem X_callVv (C : Cx nm X cc nL own Ts rty R0) (hAW : AW.all goodWord = true) (hAT : ∀ w ∈ AW, w ∈ Ts) (K : LkV AW own index y bytes maxL rt n) (hq : S[b]? = some (.inl (ci, fl))) (hc : nm.1[ci]? = some (y.cls, T, Nn)) (hR : rm.frames + 1 ≤ R0.frames ∧ 8 + (maxL + 11) + rm.locals ≤ R0.locals ∧ rm.cells = 0 ∧ rm.slots = 0 ∧ ce ≤ R0.cells ∧ sl ≤ R0.slots) (hn : As.length = n) (hst : As.reverse ++ .ref b :: rest = st) (hw : (rest.map fun v => v.category).sum ≤ 8) (d : decode cc pc = .ok (.invokevirtual index, 3)) {fc : Option Sg} {f : Sg → Option β} (hf : bdv fc f = some out) (hM : ∀ (σ' : Sg), fc = some σ' → Ctr nm y (Cond.code y bytes maxL rt :: AW) rm S σ (.ref b :: As) none σ') (k : ∀ (σ' : Sg), f σ' = some out → XW nm X nL ce sl S σ' (pc + 3) L (rest)) : XW nm X nL ce sl S σ pc L st := by
  obtain ⟨σ', h1, h2⟩ := bdv_some hf
  exact X_callV C hAW hAT K hq hc hR hn hst hw (fun _ => rfl) d (hM σ' h1) (k σ' h2)
theorem X_callSv (C : Cx nm X cc nL own Ts rty R0) (hAW : AW.all goodWord = true) (hAT : ∀ w ∈ AW, w ∈ Ts) (K : LkS AW own index y bytes maxL rt n) (hR : rm.frames + 1 ≤ R0.frames ∧ 8 + (maxL + 11) + rm.locals ≤ R0.locals ∧ rm.cells = 0 ∧ rm.slots = 0 ∧ ce ≤ R0.cells ∧ sl ≤ R0.slots) (hn : As.length = n) (hst : As.reverse ++ rest = st) (hw : (rest.map fun v => v.category).sum ≤ 8) (d : decode cc pc = .ok (.invokestatic index, 3)) {fc : Option Sg} {f : Sg → Option β} (hf : bdv fc f = some out) (hM : ∀ (σ' : Sg), fc = some σ' → Ctr nm y (Cond.code y bytes maxL rt :: AW) rm S σ As none σ') (k : ∀ (σ' : Sg), f σ' = some out → XW nm X nL ce sl S σ' (pc + 3) L (rest)) : XW nm X nL ce sl S σ pc L st := by
  obtain ⟨σ', h1, h2⟩ := bdv_some hf
  exact X_callS C hAW hAT K hR hn hst hw (fun _ => rfl) d (hM σ' h1) (k σ' h2)
theorem X_sw {x k0 : Int32} {f g : Option β} {P : Prop} (hf : (if x = k0 then f else g) = some out) (kt : x = k0 → f = some out → P) (kf : ¬ x = k0 → g = some out → P) : P := by
  by_cases h : x = k0
  · rw [if_pos h] at hf
    exact kt h hf
  · rw [if_neg h] at hf
    exact kf h hf
end XC
end
section
def rfo (n : Nat) (v : Value) : Bool := match v with
  | .ref q => decide (q ≤ n) || decide (1000 ≤ q)
  | _ => true
def rfn (n : Nat) (v : Value) : Bool := match v with
  | .ref q => decide (q ≠ n)
  | _ => true
theorem cv_rfn {n x : Nat} {a : Nat → Nat} {v : Value} (h : rfn n v = true) : cv (fun j => if j = n then x else a j) v = cv a v := by
  cases v <;> try rfl
  rename_i q
  have h : q ≠ n := by simpa [rfn] using h
  show Value.ref (if q = n then x else a q) = Value.ref (a q)
  rw [if_neg h]
theorem map_rfn {n x : Nat} {a : Nat → Nat} : ∀ {st : List Value}, st.all (rfn n) = true → st.map (cv (fun j => if j = n then x else a j)) = st.map (cv a)
  | [], _ => rfl
  | v :: st, h => by
    simp only [List.all_cons, Bool.and_eq_true] at h
    rw [List.map_cons, List.map_cons, cv_rfn h.1, map_rfn h.2]
theorem mapp_rfn {n x : Nat} {a : Nat → Nat} : ∀ {L : List (Nat × Value)}, L.all (fun q => rfn n q.2) = true → L.map (cvp (fun j => if j = n then x else a j)) = L.map (cvp a)
  | [], _ => rfl
  | v :: L, h => by
    simp only [List.all_cons, Bool.and_eq_true] at h
    rw [List.map_cons, List.map_cons, mapp_rfn h.2]
    show (v.1, cv _ v.2) :: _ = (v.1, cv a v.2) :: _
    rw [cv_rfn h.1]
theorem cv_rfo {n : Nat} {a a' : Nat → Nat} {v : Value} (ha : ∀ q, q ≤ n ∨ 1000 ≤ q → a' q = a q) (h : rfo n v = true) : cv a' v = cv a v := by
  cases v <;> try rfl
  rename_i q
  have h : q ≤ n ∨ 1000 ≤ q := by simpa [rfo] using h
  show Value.ref (a' q) = Value.ref (a q)
  rw [ha q h]
theorem map_rfo {n : Nat} {a a' : Nat → Nat} (ha : ∀ q, q ≤ n ∨ 1000 ≤ q → a' q = a q) : ∀ {st : List Value}, st.all (rfo n) = true → st.map (cv a') = st.map (cv a)
  | [], _ => rfl
  | v :: st, h => by
    simp only [List.all_cons, Bool.and_eq_true] at h
    rw [List.map_cons, List.map_cons, cv_rfo ha h.1, map_rfo ha h.2]
theorem mapp_rfo {n : Nat} {a a' : Nat → Nat} (ha : ∀ q, q ≤ n ∨ 1000 ≤ q → a' q = a q) : ∀ {L : List (Nat × Value)}, L.all (fun q => rfo n q.2) = true → L.map (cvp a') = L.map (cvp a)
  | [], _ => rfl
  | v :: L, h => by
    simp only [List.all_cons, Bool.and_eq_true] at h
    rw [List.map_cons, List.map_cons, mapp_rfo ha h.2]
    show (v.1, cv _ v.2) :: _ = (v.1, cv a v.2) :: _
    rw [cv_rfo ha h.1]
def nor (fl : List (Option Nat)) : Bool := fl.all (fun x => match x with
  | some (_ + 1) => false
  | _ => true)
theorem nor_A {a a' : Nat → Nat} {f : Nat → Int32} {fl : List (Option Nat)} (h : nor fl = true) : flds a f 0 fl = flds a' f 0 fl := by
  refine flds_congA f fl 0 (fun r hr => ?_)
  have := List.all_eq_true.mp h _ hr
  cases this
def shf (n : Nat) (S : List Shp) : List Shp := S.map (fun s => match s with
  | .inl o => .inl (o.1, o.2.map (fun x => match x with
    | some (r + 1) => some (n + r + 1)
    | y => y))
  | .inr z => .inr z)
def mrg (n : Nat) (σ σ' : Sg) : Sg := fun q => if q < n then σ q else σ' (q - n)
theorem flds_shf {a1 a2 : Nat → Nat} {n N : Nat} (f : Nat → Int32) (ha : ∀ q, q < N → a2 (n + q) = a1 q) : ∀ (fl : List (Option Nat)) (i : Nat), (fl.all (fun x => match x with
    | some (r + 1) => decide (r < N)
    | _ => true)) = true → flds a2 f i (fl.map (fun x => match x with
    | some (r + 1) => some (n + r + 1)
    | y => y)) = flds a1 f i fl
  | [], _, _ => rfl
  | x :: xs, i, h => by
    simp only [List.all_cons, Bool.and_eq_true] at h
    have ih := flds_shf f ha xs (i + 1) h.2
    cases x with
    | none => simp only [List.map_cons, flds]; rw [ih]; rfl
    | some r => cases r with
      | zero => simp only [List.map_cons, flds]; rw [ih]; rfl
      | succ r =>
        have hr : r < N := by simpa using h.1
        simp only [List.map_cons, flds]
        rw [ih]
        show Value.ref (a2 (n + r)) :: _ = Value.ref (a1 r) :: _
        rw [ha r hr]
theorem Wd_shf {ac : Nat → ClassId} {a1 a2 : Nat → Nat} {σ1 σ2 : Sg} {n N : Nat} (ha : ∀ q, q < N → a2 (n + q) = a1 q) (hσ : ∀ q, q < N → σ2 (n + q) = σ1 q) : ∀ (S : List Shp) (i : Nat), wfS S N = true → i + S.length ≤ N → Wd ac a2 σ2 (n + i) (shf n S) = Wd ac a1 σ1 i S
  | [], _, _, _ => rfl
  | .inl o :: xs, i, hw, hn => by
    simp only [wfS, Bool.and_eq_true] at hw
    simp only [List.length_cons] at hn
    have ih := Wd_shf (ac := ac) ha hσ xs (i + 1) hw.2 (by omega)
    show (a2 (n + i), cel ac a2 (σ2 (n + i)) (.inl (o.1, o.2.map (fun x => match x with | some (r + 1) => some (n + r + 1) | y => y)))) :: Wd ac a2 σ2 (n + i + 1) (shf n xs) = (a1 i, Sum.inr (o.1, flds a1 (σ1 i) 0 o.2)) :: Wd ac a1 σ1 (i + 1) xs
    rw [show n + i + 1 = n + (i + 1) by omega, ih, ha i (by omega), hσ i (by omega)]
    show (a1 i, Sum.inr (o.1, flds a2 (σ1 i) 0 _)) :: _ = _
    rw [flds_shf (σ1 i) ha o.2 0 hw.1]
  | .inr z :: xs, i, hw, hn => by
    simp only [wfS] at hw
    simp only [List.length_cons] at hn
    have ih := Wd_shf (ac := ac) ha hσ xs (i + 1) hw (by omega)
    show (a2 (n + i), Sum.inl (ac z.1, z.2, Sum.inl (σ2 (n + i)))) :: Wd ac a2 σ2 (n + i + 1) (shf n xs) = (a1 i, Sum.inl (ac z.1, z.2, Sum.inl (σ1 i))) :: Wd ac a1 σ1 (i + 1) xs
    rw [show n + i + 1 = n + (i + 1) by omega, ih, ha i (by omega), hσ i (by omega)]
theorem range_pick {α : Type} (l r : List α) : (List.range l.length).map (fun i => (l ++ r)[i]?) = l.map some := by
  apply List.ext_getElem?
  intro i
  by_cases h : i < l.length
  · simp [h, List.getElem?_append_left h]
  · simp [h]
section XA
variable {nm : Nm} {X : Ctx} {cc : ByteArray} {nL ce sl pc : Nat} {own : String} {Ts : List Cond} {rty : Option FieldType} {R0 : Room} {S : List Shp} {σ : Sg} {L L' : List (Nat × Value)} {st : List Value} {n0 : Nat}
theorem X_new (C : Cx nm X cc nL own Ts rty R0) (hX : Ey X n0) {ci index : Nat} {Cn : String} {T : u_T} {Nn : Nat} {fl : List (Option Nat)} (n : Nat) (hn : S.length = n) (hn0 : n0 ≤ n) (hn1 : n < 1000) (hwf : wfS S n = true) (ty : Nat → FieldType) (hty : ∀ k, k < Nn → parseFieldDescriptor (T k).2.2.1 = some (ty k)) (hc : nm.1[ci]? = some (Cn, T, Nn)) (hin : ∀ w ∈ u_ws Cn T Nn, w ∈ Ts) (h1 : Cond.classLink own index Cn ∈ Ts) (h2 : Cond.instantiable Cn Nn ∈ Ts) (h3 : Cond.initialized Cn ∈ Ts) (hnor : nor fl = true) (hfs : ∀ j, j < Nn → defaultValue (ty j) = vp_V (flds (fun _ => 0) (fun _ => 0) 0 fl) j) (hσ : ∀ j, σ n j = 0) (hst : st.all (rfn n) = true) (hL : L.all (fun q => rfn n q.2) = true) (hR : ce + 1 ≤ R0.cells ∧ sl + Nn ≤ R0.slots) (d : decode cc pc = .ok (.new index, 3)) (k : XW nm X nL (ce + 1) (sl + Nn) (S ++ [.inl (ci, fl)]) σ (pc + 3) L (.ref n :: st)) : XW nm X nL ce sl S σ pc L st := by
  obtain ⟨p, l, e, R, s, m, args, below, meth, c, D, ac, E, A, Q⟩ := X
  obtain ⟨⟨hx, hb, hml, hown, hts⟩, hr, hlk, hK, hN, hA, rfl⟩ := C
  intro a H locs ls hE hP hD hS hl
  subst hn
  have hz : σ S.length = fun _ => 0 := funext hσ
  have hfl : flds a (σ S.length) 0 fl = flds (fun _ => 0) (fun _ => 0) 0 fl := by rw [hz]; exact nor_A hnor
  refine va_new hx hb hts hin ty hty hown (hts _ h1) (hts _ h2) (hts _ h3) hK hP hD hS hA hc (fs := flds a (σ S.length) 0 fl) (fun j hj => by rw [hfl]; exact hfs j hj) hR.1 hR.2 d (fun q H1 hP hD hS => ?_)
  have he : Wd ac a σ 0 S ++ [(q, cel ac a (σ S.length) (.inl (ci, fl)))] = Wd ac (fun j => if j = S.length then q else a j) σ 0 (S ++ [.inl (ci, fl)]) := Wd_push hwf (by show Sum.inr (ci, flds _ _ 0 fl) = Sum.inr (ci, flds _ _ 0 fl); rw [nor_A hnor])
  have := k (fun j => if j = S.length then q else a j) H1 locs ls (hX a _ hE (fun j hj => if_neg (by omega))) (P_eq he hP) (D_eq he hD) hS (by rw [mapp_rfn hL]; exact hl)
  rw [List.map_cons, map_rfn hst, show cv (fun j => if j = S.length then q else a j) (.ref S.length) = .ref q from by show Value.ref (if S.length = S.length then q else _) = _; rw [if_pos rfl]] at this
  exact this
theorem X_newa (C : Cx nm X cc nL own Ts rty R0) (hX : Ey X n0) {atype : ArrayType} {ty : FieldType} (z : Nat) {len : Int32} {N : Nat} (n : Nat) (hn : S.length = n) (hn0 : n0 ≤ n) (hn1 : n < 1000) (hwf : wfS S n = true) (hat : newarray.typeOf atype = ty) (hz0 : ∀ ac, (tys ac)[z]? = some (ac z, ty)) (hra : ∀ (U : State) (c1 c2 : ClassId), va_RA U c1 ty → va_RA U c2 ty → c1 = c2) (hdf : defaultValue ty = .int 0) (hw : Cond.arrayClass ty ∈ Ts) (hlen : vi len 100000000 = true) (hN : len.toNatClampNeg = N) (hby : N * componentBytes ty ≤ 536870912) (hσ : ∀ j, σ n j = 0) (hst : st.all (rfn n) = true) (hL : L.all (fun q => rfn n q.2) = true) (hR : ce + 1 ≤ R0.cells ∧ sl + N ≤ R0.slots) (d : decode cc pc = .ok (.newarray atype, 2)) (k : XW nm X nL (ce + 1) (sl + N) (S ++ [.inr (z, N)]) σ (pc + 2) L (.ref n :: st)) : XW nm X nL ce sl S σ pc L (.int len :: st) := by
  obtain ⟨p, l, e, R, s, m, args, below, meth, c, D, ac, E, A, Q⟩ := X
  obtain ⟨⟨hx, hb, hml, hown, hts⟩, hr, hlk, hK, hN', hA, rfl⟩ := C
  intro a H locs ls hE hP hD hS hl
  subst hn
  have hz : σ S.length = fun _ => 0 := funext hσ
  refine va_newa hx hb (by rw [hat]; exact hts _ hw) hat hK hP hD hS hA (a0 := (N, .inl (σ S.length))) (fun cA => by show arrV cA N (fun j => .int (σ S.length j)) = _; rw [hz, hdf]) (fun h => (vi_in hlen) (Or.inl h)) hN hby hR.1 hR.2 d (fun q cA H1 hK1 hP hD hS => ?_)
  have hcA : cA = ac z := hra s _ _ (hK1.2 2 (cA, ty) rfl).2 (hK.2 z (ac z, ty) (hz0 ac)).2
  subst hcA
  have he : Wd ac a σ 0 S ++ [(q, cel ac a (σ S.length) (.inr (z, N)))] = Wd ac (fun j => if j = S.length then q else a j) σ 0 (S ++ [.inr (z, N)]) := Wd_push hwf rfl
  have := k (fun j => if j = S.length then q else a j) H1 locs ls (hX a _ hE (fun j hj => if_neg (by omega))) (P_eq he hP) (D_eq he hD) hS (by rw [mapp_rfn hL]; exact hl)
  rw [List.map_cons, map_rfn hst, show cv (fun j => if j = S.length then q else a j) (.ref S.length) = .ref q from by show Value.ref (if S.length = S.length then q else _) = _; rw [if_pos rfl]] at this
  exact this
theorem X_obj (C : Cx nm X cc nL own Ts rty R0) {b index : Nat} (h1 : Cond.methodLink own index Lib.objectInit ∈ Ts) (h2 : Cond.instanceMethod Lib.objectInit ∈ Ts) (h3 : Cond.code Lib.objectInit ⟨#[0xb1]⟩ 1 none ∈ Ts) (hR : 1 ≤ R0.frames ∧ (st.map fun v => v.category).sum + 12 ≤ R0.locals) (d : decode cc pc = .ok (.invokespecial index, 3)) (k : XW nm X nL ce sl S σ (pc + 3) L st) : XW nm X nL ce sl S σ pc L (.ref b :: st) := by
  obtain ⟨p, l, e, R, s, m, args, below, meth, c, D, ac, E, A, Q⟩ := X
  obtain ⟨⟨hx, hb, hml, hown, hts⟩, hr, hlk, hK, hN, hA, rfl⟩ := C
  intro a H locs ls hE hP hD hS hl
  exact W.objInit hx hb hown (hts _ h1) (hts _ h2) (hts _ h3) rfl (by rw [hml]; exact hl.1) rfl d hR.1 (by show 2 * 0 + _ + 12 ≤ _; rw [cat_sum]; omega) (k a H locs ls hE hP hD hS hl)
theorem X_widen {ce' sl' : Nat} (h1 : ce ≤ ce') (h2 : sl ≤ sl') (k : XW nm X nL ce' sl' S σ pc L st) : XW nm X nL ce sl S σ pc L st := by
  obtain ⟨p, l, e, R, s, m, args, below, meth, c, D, ac, E, A, Q⟩ := X
  intro a H locs ls hE hP hD hS hl
  exact W.widen h1 h2 (k a H locs ls hE hP hD hS hl)
end XA
end
section
def AW : List Cond := lw_tbl.filter goodWord
theorem aw_ok : AW.all goodWord = true := List.all_eq_true.mpr (fun _ h => (List.mem_filter.mp h).2)
theorem aw_in : ∀ w ∈ AW, w ∈ lw_tbl := fun _ h => (List.mem_filter.mp h).1
theorem aw1 {w : Cond} (i : Nat) (h : tables_1_1[i]? = some w) (g : goodWord w = true) : w ∈ AW := List.mem_filter.mpr ⟨List.mem_append_right _ (have h := List.mem_of_getElem? h; (List.mem_append_left _ h : w ∈ tables_1)), g⟩
theorem aw2 {w : Cond} (i : Nat) (h : tables_1_2[i]? = some w) (g : goodWord w = true) : w ∈ AW := List.mem_filter.mpr ⟨List.mem_append_right _ (have h := List.mem_of_getElem? h; (List.mem_append_right _ (List.mem_append_left _ h) : w ∈ tables_1)), g⟩
theorem aw3 {w : Cond} (i : Nat) (h : tables_1_3[i]? = some w) (g : goodWord w = true) : w ∈ AW := List.mem_filter.mpr ⟨List.mem_append_right _ (have h := List.mem_of_getElem? h; (List.mem_append_right _ (List.mem_append_right _ (List.mem_append_left _ h)) : w ∈ tables_1)), g⟩
theorem aw4 {w : Cond} (i : Nat) (h : tables_1_4[i]? = some w) (g : goodWord w = true) : w ∈ AW := List.mem_filter.mpr ⟨List.mem_append_right _ (have h := List.mem_of_getElem? h; (List.mem_append_right _ (List.mem_append_right _ (List.mem_append_right _ h)) : w ∈ tables_1)), g⟩
theorem aws {w : Cond} (i : Nat) (h : (k2_sels lw_privs)[i]? = some w) (g : goodWord w = true) : w ∈ AW := List.mem_filter.mpr ⟨List.mem_append_left _ (List.mem_of_getElem? h), g⟩
theorem wd_0 : (.fieldLink RX6 9 "IronCampaign$Table" "rows" "I" : Cond) ∈ AW := aw1 37 rfl rfl
theorem wd_1 : (.fieldLink RX6 21 "IronCampaign$Table" "most" "I" : Cond) ∈ AW := aw1 35 rfl rfl
theorem wd_2 : (.fieldLink RX6 24 "IronCampaign$Table" "width" "I" : Cond) ∈ AW := aw1 36 rfl rfl
theorem wd_3 : (.fieldLink RX6 27 "IronCampaign$Table" "cells" "[I" : Cond) ∈ AW := aw1 34 rfl rfl
theorem wd_4 : (.constantLong RX6 39 (31) : Cond) ∈ AW := aw3 44 rfl rfl
theorem wd_5 : (.fieldLink RX0 14 "IronCampaign$Column" "charges" "LIronCampaign$Table;" : Cond) ∈ AW := aw1 51 rfl rfl
theorem wd_6 : (.fieldLink RX0 20 "IronCampaign$Column" "lowest" "I" : Cond) ∈ AW := aw1 54 rfl rfl
theorem wd_7 : (.methodLink RX0 39 Lib.Math.min.name : Cond) ∈ AW := aw2 142 rfl rfl
theorem wd_8 : (.static Lib.Math.min.name : Cond) ∈ AW := aw2 122 rfl rfl
theorem wd_9 : (.initialized "java/lang/Math" : Cond) ∈ AW := aw1 4 rfl rfl
theorem wd_10 : (.code Lib.Math.min.name Lib.Math.min.code 2 (some .int) : Cond) ∈ AW := aw2 123 rfl rfl
theorem wd_11 : (.fieldLink RX2 9 "IronCampaign$Hearth" "iron" "I" : Cond) ∈ AW := aw1 68 rfl rfl
theorem wd_12 : (.fieldLink RX2 18 "IronCampaign$Hearth" "made" "I" : Cond) ∈ AW := aw1 72 rfl rfl
theorem wd_13 : (.fieldLink RX2 24 "IronCampaign$Hearth" "firstCharge" "I" : Cond) ∈ AW := aw1 76 rfl rfl
theorem wd_14 : (.fieldLink RX2 30 "IronCampaign$Hearth" "leastSort" "I" : Cond) ∈ AW := aw1 80 rfl rfl
theorem wd_15 : (.methodLink RX2 33 Lib.Math.min.name : Cond) ∈ AW := aw2 161 rfl rfl
theorem wd_16 : (.fieldLink RX2 27 "IronCampaign$Hearth" "lastCharge" "I" : Cond) ∈ AW := aw1 78 rfl rfl
theorem wd_17 : (.fieldLink RX2 15 "IronCampaign$Hearth" "holds" "I" : Cond) ∈ AW := aw1 70 rfl rfl
theorem wd_18 : (.methodLink RX2 39 Lib.Math.max.name : Cond) ∈ AW := aw2 168 rfl rfl
theorem wd_19 : (.static Lib.Math.max.name : Cond) ∈ AW := aw1 32 rfl rfl
theorem wd_20 : (.code Lib.Math.max.name Lib.Math.max.code 2 (some .int) : Cond) ∈ AW := aw1 33 rfl rfl
theorem wd_21 : (.fieldLink RX2 21 "IronCampaign$Hearth" "spilled" "I" : Cond) ∈ AW := aw1 74 rfl rfl
theorem wd_22 : (.fieldLink RX1 15 "IronCampaign$Furnace" "heat" "I" : Cond) ∈ AW := aw1 105 rfl rfl
theorem wd_23 : (.fieldLink RX1 36 "IronCampaign$Furnace" "chills" "I" : Cond) ∈ AW := aw1 119 rfl rfl
theorem wd_24 : (.fieldLink RX1 21 "IronCampaign$Furnace" "slagOfTick" "I" : Cond) ∈ AW := aw1 109 rfl rfl
theorem wd_25 : (.fieldLink RX1 9 "IronCampaign$Furnace" "blast" "I" : Cond) ∈ AW := aw1 103 rfl rfl
theorem wd_26 : (.fieldLink RX1 33 "IronCampaign$Furnace" "burned" "I" : Cond) ∈ AW := aw1 117 rfl rfl
theorem wd_27 : (.methodLink RX1 64 Lib.Math.min.name : Cond) ∈ AW := aw2 162 rfl rfl
theorem wd_28 : (.methodLink RX1 70 Lib.Math.max.name : Cond) ∈ AW := aw2 163 rfl rfl
theorem wd_29 : (.fieldLink RX1 18 "IronCampaign$Furnace" "slag" "I" : Cond) ∈ AW := aw1 107 rfl rfl
theorem wd_30 : (.fieldLink RX1 24 "IronCampaign$Furnace" "wear" "I" : Cond) ∈ AW := aw1 111 rfl rfl
theorem wd_31 : (.fieldLink RX1 30 "IronCampaign$Furnace" "ticks" "I" : Cond) ∈ AW := aw1 115 rfl rfl
theorem wd_32 : (.fieldLink RX1 27 "IronCampaign$Furnace" "life" "I" : Cond) ∈ AW := aw1 113 rfl rfl
theorem wd_33 : (.fieldLink RX1 39 "IronCampaign$Furnace" "out" "Z" : Cond) ∈ AW := aw1 121 rfl rfl
theorem wd_34 : (.fieldLink RX5 9 "IronCampaign$Signs" "seen" "[I" : Cond) ∈ AW := aw1 152 rfl rfl
theorem wd_35 : (.fieldLink RX5 15 "IronCampaign$Signs" "toLose" "[I" : Cond) ∈ AW := aw1 154 rfl rfl
theorem wd_36 : (.fieldLink RX4 33 "IronCampaign$Sale" "lots" "I" : Cond) ∈ AW := aw1 177 rfl rfl
theorem wd_37 : (.fieldLink RX4 9 "IronCampaign$Sale" "pigOf" "[I" : Cond) ∈ AW := aw1 167 rfl rfl
theorem wd_38 : (.fieldLink RX4 15 "IronCampaign$Sale" "weight" "[I" : Cond) ∈ AW := aw1 169 rfl rfl
theorem wd_39 : (.fieldLink RX4 18 "IronCampaign$Sale" "sortBit" "[I" : Cond) ∈ AW := aw1 171 rfl rfl
theorem wd_40 : (.fieldLink RX4 30 "IronCampaign$Sale" "wants" "[I" : Cond) ∈ AW := aw1 176 rfl rfl
theorem wd_41 : (.fieldLink RX4 27 "IronCampaign$Sale" "hope" "[I" : Cond) ∈ AW := aw1 175 rfl rfl
theorem wd_42 : (.methodLink RX4 64 Lib.Math.max.name : Cond) ∈ AW := aw2 230 rfl rfl
theorem wd_43 : (.fieldLink RX4 37 "IronCampaign$Sale" "bestPay" "I" : Cond) ∈ AW := aw1 179 rfl rfl
theorem wd_44 : (.fieldLink RX4 21 "IronCampaign$Sale" "way" "[I" : Cond) ∈ AW := aw1 172 rfl rfl
theorem wd_45 : (.fieldLink RX4 24 "IronCampaign$Sale" "best" "[I" : Cond) ∈ AW := aw1 173 rfl rfl
theorem wd_46 : (.methodLink RX3 40 Lib.Math.min.name : Cond) ∈ AW := aw3 14 rfl rfl
theorem wd_47 : (.methodLink RX3 46 Lib.Math.max.name : Cond) ∈ AW := aw3 15 rfl rfl
theorem wd_48 : (.fieldLink RX3 30 "IronCampaign$Planner" "length" "I" : Cond) ∈ AW := aw1 213 rfl rfl
theorem wd_49 : (.fieldLink RX3 18 "IronCampaign$Planner" "hope" "[I" : Cond) ∈ AW := aw1 208 rfl rfl
theorem wd_50 : (.fieldLink RX3 9 "IronCampaign$Planner" "water" "[I" : Cond) ∈ AW := aw1 206 rfl rfl
theorem wd_51 : (.fieldLink RX3 15 "IronCampaign$Planner" "wood" "[I" : Cond) ∈ AW := aw1 207 rfl rfl
theorem wd_52 : (.fieldLink RX3 34 "IronCampaign$Planner" "mostIron" "I" : Cond) ∈ AW := aw1 214 rfl rfl
theorem wd_53 : (.fieldLink RX3 21 "IronCampaign$Planner" "way" "[I" : Cond) ∈ AW := aw1 209 rfl rfl
theorem wd_54 : (.fieldLink RX3 24 "IronCampaign$Planner" "found" "[I" : Cond) ∈ AW := aw1 210 rfl rfl
theorem wd_55 : (.fieldLink RX3 37 "IronCampaign$Planner" "planned" "I" : Cond) ∈ AW := aw1 215 rfl rfl
theorem wd_56 : (.fieldLink RX3 27 "IronCampaign$Planner" "best" "[I" : Cond) ∈ AW := aw1 211 rfl rfl
theorem wd_57 : (.fieldLink RX7 9 "IronCampaign" "baskets" "[I" : Cond) ∈ AW := aw2 4 rfl rfl
theorem wd_58 : (.fieldLink RX7 13 "IronCampaign" "richness" "[I" : Cond) ∈ AW := aw2 5 rfl rfl
theorem wd_59 : (.fieldLink RX7 19 "IronCampaign" "column" "LIronCampaign$Column;" : Cond) ∈ AW := aw2 6 rfl rfl
theorem wd_60 : (.fieldLink RX7 33 "IronCampaign" "furnace" "LIronCampaign$Furnace;" : Cond) ∈ AW := aw2 8 rfl rfl
theorem wd_61 : (.constant RX7 126 (100000) : Cond) ∈ AW := aw2 108 rfl rfl
theorem wd_62 : (.fieldLink RX7 26 "IronCampaign" "hearth" "LIronCampaign$Hearth;" : Cond) ∈ AW := aw2 7 rfl rfl
theorem wd_63 : (.fieldLink RX7 53 "IronCampaign" "rules" "LIronCampaign$Table;" : Cond) ∈ AW := aw2 11 rfl rfl
theorem wd_64 : (.fieldLink RX7 49 "IronCampaign" "signs" "LIronCampaign$Signs;" : Cond) ∈ AW := aw2 10 rfl rfl
theorem wd_65 : (.fieldLink RX7 42 "IronCampaign" "pigs" "LIronCampaign$Table;" : Cond) ∈ AW := aw2 9 rfl rfl
theorem wd_66 : (.methodLink RX7 254 Lib.Math.max.name : Cond) ∈ AW := aw2 124 rfl rfl
theorem wd_67 : (.methodLink RX7 249 Lib.Math.min.name : Cond) ∈ AW := aw2 121 rfl rfl
theorem wd_68 : (.fieldLink RX7 56 "IronCampaign" "forges" "LIronCampaign$Table;" : Cond) ∈ AW := aw2 12 rfl rfl
theorem wd_69 : (.fieldLink RX7 62 "IronCampaign" "market" "LIronCampaign$Sale;" : Cond) ∈ AW := aw2 13 rfl rfl
theorem wd_70 : (.fieldLink RX7 79 "IronCampaign" "pigsSold" "I" : Cond) ∈ AW := aw2 17 rfl rfl
theorem wd_71 : (.fieldLink RX7 83 "IronCampaign" "paid" "I" : Cond) ∈ AW := aw2 18 rfl rfl
theorem wd_72 : (.fieldLink RX7 66 "IronCampaign" "months" "LIronCampaign$Table;" : Cond) ∈ AW := aw2 14 rfl rfl
theorem wd_73 : (.fieldLink RX7 69 "IronCampaign" "paces" "LIronCampaign$Table;" : Cond) ∈ AW := aw2 15 rfl rfl
theorem wd_74 : (.fieldLink RX7 75 "IronCampaign" "planner" "LIronCampaign$Planner;" : Cond) ∈ AW := aw2 16 rfl rfl
theorem wd_75 : (.constantLong RX7 219 (199) : Cond) ∈ AW := aw3 36 rfl rfl
theorem wd_76 : (.constantLong RX7 221 (31) : Cond) ∈ AW := aw3 37 rfl rfl
theorem wd_77 : (.fieldLink RX8 7 "IronCampaignModel" "stores" "[I" : Cond) ∈ AW := aw3 51 rfl rfl
theorem wd_78 : (.fieldLink RX8 13 "IronCampaignModel" "richness" "[I" : Cond) ∈ AW := aw3 52 rfl rfl
theorem wd_79 : (.fieldLink RX8 127 "IronCampaignModel" "charges" "I" : Cond) ∈ AW := aw3 53 rfl rfl
theorem wd_80 : (.fieldLink RX8 130 "IronCampaignModel" "lowest" "I" : Cond) ∈ AW := aw3 54 rfl rfl
theorem wd_81 : (.fieldLink RX8 16 "IronCampaignModel" "state" "[I" : Cond) ∈ AW := aw3 55 rfl rfl
theorem wd_82 : (.fieldLink RX8 19 "IronCampaignModel" "coal" "[I" : Cond) ∈ AW := aw3 56 rfl rfl
theorem wd_83 : (.fieldLink RX8 22 "IronCampaignModel" "ore" "[I" : Cond) ∈ AW := aw3 57 rfl rfl
theorem wd_84 : (.fieldLink RX8 25 "IronCampaignModel" "flux" "[I" : Cond) ∈ AW := aw3 58 rfl rfl
theorem wd_85 : (.fieldLink RX8 28 "IronCampaignModel" "kind" "[I" : Cond) ∈ AW := aw3 59 rfl rfl
theorem wd_86 : (.fieldLink RX8 31 "IronCampaignModel" "sort" "[I" : Cond) ∈ AW := aw3 60 rfl rfl
theorem wd_87 : (.fieldLink RX8 34 "IronCampaignModel" "made" "[I" : Cond) ∈ AW := aw3 61 rfl rfl
theorem wd_88 : (.fieldLink RX8 133 "IronCampaignModel" "blast" "I" : Cond) ∈ AW := aw3 62 rfl rfl
theorem wd_89 : (.constant RX8 136 (100000) : Cond) ∈ AW := aw4 19 rfl rfl
theorem wd_90 : (.fieldLink RX8 37 "IronCampaignModel" "holds" "I" : Cond) ∈ AW := aw3 63 rfl rfl
theorem wd_91 : (.fieldLink RX8 41 "IronCampaignModel" "life" "I" : Cond) ∈ AW := aw3 64 rfl rfl
theorem wd_92 : (.fieldLink RX8 144 "IronCampaignModel" "iron" "I" : Cond) ∈ AW := aw3 66 rfl rfl
theorem wd_93 : (.fieldLink RX8 189 "IronCampaignModel" "pigs" "I" : Cond) ∈ AW := aw3 78 rfl rfl
theorem wd_94 : (.fieldLink RX8 53 "IronCampaignModel" "pigWeight" "[I" : Cond) ∈ AW := aw3 79 rfl rfl
theorem wd_95 : (.fieldLink RX8 56 "IronCampaignModel" "pigSort" "[I" : Cond) ∈ AW := aw3 80 rfl rfl
theorem wd_96 : (.fieldLink RX8 44 "IronCampaignModel" "leastSort" "I" : Cond) ∈ AW := aw3 75 rfl rfl
theorem wd_97 : (.fieldLink RX8 59 "IronCampaignModel" "pigFirst" "[I" : Cond) ∈ AW := aw3 81 rfl rfl
theorem wd_98 : (.fieldLink RX8 47 "IronCampaignModel" "firstMelted" "I" : Cond) ∈ AW := aw3 76 rfl rfl
theorem wd_99 : (.fieldLink RX8 62 "IronCampaignModel" "pigLast" "[I" : Cond) ∈ AW := aw3 82 rfl rfl
theorem wd_100 : (.fieldLink RX8 50 "IronCampaignModel" "lastMelted" "I" : Cond) ∈ AW := aw3 77 rfl rfl
theorem wd_101 : (.fieldLink RX8 65 "IronCampaignModel" "pigHour" "[I" : Cond) ∈ AW := aw3 83 rfl rfl
theorem wd_102 : (.fieldLink RX8 179 "IronCampaignModel" "ticks" "I" : Cond) ∈ AW := aw3 69 rfl rfl
theorem wd_103 : (.fieldLink RX8 68 "IronCampaignModel" "pigForge" "[I" : Cond) ∈ AW := aw3 84 rfl rfl
theorem wd_104 : (.fieldLink RX8 141 "IronCampaignModel" "heat" "I" : Cond) ∈ AW := aw3 65 rfl rfl
theorem wd_105 : (.fieldLink RX8 150 "IronCampaignModel" "slag" "I" : Cond) ∈ AW := aw3 67 rfl rfl
theorem wd_106 : (.fieldLink RX8 153 "IronCampaignModel" "chills" "I" : Cond) ∈ AW := aw3 71 rfl rfl
theorem wd_107 : (.fieldLink RX8 147 "IronCampaignModel" "ironMade" "I" : Cond) ∈ AW := aw3 73 rfl rfl
theorem wd_108 : (.fieldLink RX8 71 "IronCampaignModel" "signs" "[I" : Cond) ∈ AW := aw3 85 rfl rfl
theorem wd_109 : (.fieldLink RX8 74 "IronCampaignModel" "losing" "[I" : Cond) ∈ AW := aw3 86 rfl rfl
theorem wd_110 : (.fieldLink RX8 156 "IronCampaignModel" "rules" "I" : Cond) ∈ AW := aw3 87 rfl rfl
theorem wd_111 : (.fieldLink RX8 163 "IronCampaignModel" "burned" "I" : Cond) ∈ AW := aw3 70 rfl rfl
theorem wd_112 : (.fieldLink RX8 172 "IronCampaignModel" "wear" "I" : Cond) ∈ AW := aw3 68 rfl rfl
theorem wd_113 : (.fieldLink RX8 175 "IronCampaignModel" "out" "Z" : Cond) ∈ AW := aw3 74 rfl rfl
theorem wd_114 : (.fieldLink RX8 169 "IronCampaignModel" "spilled" "I" : Cond) ∈ AW := aw3 72 rfl rfl
theorem wd_115 : (.fieldLink RX8 77 "IronCampaignModel" "ruleSign" "[I" : Cond) ∈ AW := aw3 88 rfl rfl
theorem wd_116 : (.fieldLink RX8 80 "IronCampaignModel" "ruleAbove" "[Z" : Cond) ∈ AW := aw3 89 rfl rfl
theorem wd_117 : (.fieldLink RX8 84 "IronCampaignModel" "ruleLimit" "[I" : Cond) ∈ AW := aw3 90 rfl rfl
theorem wd_118 : (.fieldLink RX8 87 "IronCampaignModel" "ruleAct" "[I" : Cond) ∈ AW := aw3 91 rfl rfl
theorem wd_119 : (.fieldLink RX8 192 "IronCampaignModel" "forges" "I" : Cond) ∈ AW := aw3 92 rfl rfl
theorem wd_120 : (.fieldLink RX8 90 "IronCampaignModel" "takes" "[I" : Cond) ∈ AW := aw3 93 rfl rfl
theorem wd_121 : (.fieldLink RX8 93 "IronCampaignModel" "wants" "[I" : Cond) ∈ AW := aw3 94 rfl rfl
theorem wd_122 : (.fieldLink RX8 96 "IronCampaignModel" "price" "[I" : Cond) ∈ AW := aw3 95 rfl rfl
theorem wd_123 : (.fieldLink RX8 195 "IronCampaignModel" "offeredMany" "I" : Cond) ∈ AW := aw3 105 rfl rfl
theorem wd_124 : (.fieldLink RX8 117 "IronCampaignModel" "offered" "[I" : Cond) ∈ AW := aw3 104 rfl rfl
theorem wd_125 : (.fieldLink RX8 120 "IronCampaignModel" "left" "[I" : Cond) ∈ AW := aw3 107 rfl rfl
theorem wd_126 : (.fieldLink RX8 206 "IronCampaignModel" "bestCode" "I" : Cond) ∈ AW := aw3 106 rfl rfl
theorem wd_127 : (.fieldLink RX8 212 "IronCampaignModel" "paid" "I" : Cond) ∈ AW := aw3 96 rfl rfl
theorem wd_128 : (.fieldLink RX8 99 "IronCampaignModel" "water" "[I" : Cond) ∈ AW := aw3 97 rfl rfl
theorem wd_129 : (.fieldLink RX8 102 "IronCampaignModel" "wood" "[I" : Cond) ∈ AW := aw3 98 rfl rfl
theorem wd_130 : (.fieldLink RX8 105 "IronCampaignModel" "paceIron" "[I" : Cond) ∈ AW := aw3 99 rfl rfl
theorem wd_131 : (.fieldLink RX8 108 "IronCampaignModel" "paceWear" "[I" : Cond) ∈ AW := aw3 100 rfl rfl
theorem wd_132 : (.fieldLink RX8 111 "IronCampaignModel" "paceCoal" "[I" : Cond) ∈ AW := aw3 101 rfl rfl
theorem wd_133 : (.fieldLink RX8 219 "IronCampaignModel" "planMany" "I" : Cond) ∈ AW := aw3 103 rfl rfl
theorem wd_134 : (.fieldLink RX8 114 "IronCampaignModel" "plan" "[I" : Cond) ∈ AW := aw3 102 rfl rfl
theorem wd_135 : (.constantLong RX8 222 (199) : Cond) ∈ AW := aw4 121 rfl rfl
theorem wd_136 : (.constantLong RX8 224 (31) : Cond) ∈ AW := aw4 122 rfl rfl
theorem wd_137 : (.code yX6_init cX6_init 3 none : Cond) ∈ AW := aw1 29 rfl rfl
theorem wd_138 : (.initialized RX6 : Cond) ∈ AW := aw1 3 rfl rfl
theorem wd_139 : (.methodLink RX0 11 yX6_init : Cond) ∈ AW := aw1 27 rfl rfl
theorem wd_140 : (.instanceMethod yX6_init : Cond) ∈ AW := aw1 28 rfl rfl
theorem wd_141 : (.code yX6_add cX6_add 1 (some .int) : Cond) ∈ AW := aw2 80 rfl rfl
theorem wd_142 : (.methodLink RX0 27 yX6_add : Cond) ∈ AW := aw2 77 rfl rfl
theorem wd_143 : (.instanceMethod yX6_add : Cond) ∈ AW := aw2 78 rfl rfl
theorem wd_144 : (.selects RX6 yX6_add yX6_add : Cond) ∈ AW := aw2 79 rfl rfl
theorem wd_145 : (.code yX6_set cX6_set 4 none : Cond) ∈ AW := aw1 239 rfl rfl
theorem wd_146 : (.methodLink RX0 31 yX6_set : Cond) ∈ AW := aw2 82 rfl rfl
theorem wd_147 : (.instanceMethod yX6_set : Cond) ∈ AW := aw1 237 rfl rfl
theorem wd_148 : (.selects RX6 yX6_set yX6_set : Cond) ∈ AW := aw1 238 rfl rfl
theorem wd_149 : (.code yX6_get cX6_get 3 (some .int) : Cond) ∈ AW := aw2 90 rfl rfl
theorem wd_150 : (.methodLink RX0 35 yX6_get : Cond) ∈ AW := aw2 99 rfl rfl
theorem wd_151 : (.instanceMethod yX6_get : Cond) ∈ AW := aw2 88 rfl rfl
theorem wd_152 : (.selects RX6 yX6_get yX6_get : Cond) ∈ AW := aw2 89 rfl rfl
theorem wd_153 : (.code yX0_burn cX0_burn 6 (some .int) : Cond) ∈ AW := aw2 141 rfl rfl
theorem wd_154 : (.initialized RX0 : Cond) ∈ AW := aw1 2 rfl rfl
theorem wd_155 : (.methodLink RX1 43 yX0_burn : Cond) ∈ AW := aw2 138 rfl rfl
theorem wd_156 : (.instanceMethod yX0_burn : Cond) ∈ AW := aw2 139 rfl rfl
theorem wd_157 : (.selects RX0 yX0_burn yX0_burn : Cond) ∈ AW := aw2 140 rfl rfl
theorem wd_158 : (.code yX0_lowestIsBurned cX0_lowestIsBurned 1 (some .boolean) : Cond) ∈ AW := aw2 146 rfl rfl
theorem wd_159 : (.methodLink RX1 49 yX0_lowestIsBurned : Cond) ∈ AW := aw2 143 rfl rfl
theorem wd_160 : (.instanceMethod yX0_lowestIsBurned : Cond) ∈ AW := aw2 144 rfl rfl
theorem wd_161 : (.selects RX0 yX0_lowestIsBurned yX0_lowestIsBurned : Cond) ∈ AW := aw2 145 rfl rfl
theorem wd_162 : (.code yX1_bringDown cX1_bringDown 10 none : Cond) ∈ AW := aw2 150 rfl rfl
theorem wd_163 : (.initialized RX1 : Cond) ∈ AW := aw1 6 rfl rfl
theorem wd_164 : (.methodLink RX1 60 yX1_bringDown : Cond) ∈ AW := aw2 147 rfl rfl
theorem wd_165 : (.instanceMethod yX1_bringDown : Cond) ∈ AW := aw2 149 rfl rfl
theorem wd_166 : (.selects RX1 yX1_bringDown yX1_bringDown : Cond) ∈ AW := aws 4 rfl rfl
theorem wd_167 : (.code yX2_spill cX2_spill 2 (some .int) : Cond) ∈ AW := aw2 167 rfl rfl
theorem wd_168 : (.initialized RX2 : Cond) ∈ AW := aw1 5 rfl rfl
theorem wd_169 : (.methodLink RX1 73 yX2_spill : Cond) ∈ AW := aw2 164 rfl rfl
theorem wd_170 : (.instanceMethod yX2_spill : Cond) ∈ AW := aw2 165 rfl rfl
theorem wd_171 : (.selects RX2 yX2_spill yX2_spill : Cond) ∈ AW := aw2 166 rfl rfl
theorem wd_172 : (.methodLink RX1 79 yX6_get : Cond) ∈ AW := aw2 151 rfl rfl
theorem wd_173 : (.methodLink RX1 84 yX6_set : Cond) ∈ AW := aw2 152 rfl rfl
theorem wd_174 : (.code yX1_sortOf cX1_sortOf 4 (some .int) : Cond) ∈ AW := aw2 156 rfl rfl
theorem wd_175 : (.methodLink RX1 88 yX1_sortOf : Cond) ∈ AW := aw2 153 rfl rfl
theorem wd_176 : (.instanceMethod yX1_sortOf : Cond) ∈ AW := aw2 155 rfl rfl
theorem wd_177 : (.selects RX1 yX1_sortOf yX1_sortOf : Cond) ∈ AW := aws 5 rfl rfl
theorem wd_178 : (.code yX2_pour cX2_pour 4 none : Cond) ∈ AW := aw2 160 rfl rfl
theorem wd_179 : (.methodLink RX1 91 yX2_pour : Cond) ∈ AW := aw2 157 rfl rfl
theorem wd_180 : (.instanceMethod yX2_pour : Cond) ∈ AW := aw2 158 rfl rfl
theorem wd_181 : (.selects RX2 yX2_pour yX2_pour : Cond) ∈ AW := aw2 159 rfl rfl
theorem wd_182 : (.methodLink RX3 49 yX6_get : Cond) ∈ AW := aw3 16 rfl rfl
theorem wd_183 : (.code yX3_goOn cX3_goOn 10 none : Cond) ∈ AW := aw3 23 rfl rfl
theorem wd_184 : (.initialized RX3 : Cond) ∈ AW := aw1 9 rfl rfl
theorem wd_185 : (.methodLink RX3 54 yX3_goOn : Cond) ∈ AW := aw3 21 rfl rfl
theorem wd_186 : (.static yX3_goOn : Cond) ∈ AW := aw3 22 rfl rfl
theorem wd_187 : (.code yX4_readPigs cX4_readPigs 3 none : Cond) ∈ AW := aw2 220 rfl rfl
theorem wd_188 : (.initialized RX4 : Cond) ∈ AW := aw1 8 rfl rfl
theorem wd_189 : (.methodLink RX4 40 yX4_readPigs : Cond) ∈ AW := aw2 217 rfl rfl
theorem wd_190 : (.instanceMethod yX4_readPigs : Cond) ∈ AW := aw2 219 rfl rfl
theorem wd_191 : (.selects RX4 yX4_readPigs yX4_readPigs : Cond) ∈ AW := aws 6 rfl rfl
theorem wd_192 : (.methodLink RX4 44 yX6_get : Cond) ∈ AW := aw2 221 rfl rfl
theorem wd_193 : (.code yX4_readHopes cX4_readHopes 5 none : Cond) ∈ AW := aw2 225 rfl rfl
theorem wd_194 : (.methodLink RX4 50 yX4_readHopes : Cond) ∈ AW := aw2 222 rfl rfl
theorem wd_195 : (.instanceMethod yX4_readHopes : Cond) ∈ AW := aw2 224 rfl rfl
theorem wd_196 : (.selects RX4 yX4_readHopes yX4_readHopes : Cond) ∈ AW := aws 7 rfl rfl
theorem wd_197 : (.code yX4_place cX4_place 6 none : Cond) ∈ AW := aw2 233 rfl rfl
theorem wd_198 : (.methodLink RX4 53 yX4_place : Cond) ∈ AW := aw2 231 rfl rfl
theorem wd_199 : (.static yX4_place : Cond) ∈ AW := aw2 232 rfl rfl
theorem wd_200 : (.code yX4_canTake cX4_canTake 5 (some .boolean) : Cond) ∈ AW := aw2 229 rfl rfl
theorem wd_201 : (.methodLink RX4 60 yX4_canTake : Cond) ∈ AW := aw2 226 rfl rfl
theorem wd_202 : (.instanceMethod yX4_canTake : Cond) ∈ AW := aw2 228 rfl rfl
theorem wd_203 : (.selects RX4 yX4_canTake yX4_canTake : Cond) ∈ AW := aws 8 rfl rfl
theorem wd_204 : (.code yX6_isFull cX6_isFull 1 (some .boolean) : Cond) ∈ AW := aw2 72 rfl rfl
theorem wd_205 : (.methodLink RX6 31 yX6_isFull : Cond) ∈ AW := aw2 81 rfl rfl
theorem wd_206 : (.instanceMethod yX6_isFull : Cond) ∈ AW := aw2 70 rfl rfl
theorem wd_207 : (.selects RX6 yX6_isFull yX6_isFull : Cond) ∈ AW := aw2 71 rfl rfl
theorem wd_208 : (.code yX6_has cX6_has 3 (some .boolean) : Cond) ∈ AW := aw2 3 rfl rfl
theorem wd_209 : (.methodLink RX6 35 yX6_has : Cond) ∈ AW := aw2 0 rfl rfl
theorem wd_210 : (.instanceMethod yX6_has : Cond) ∈ AW := aw2 2 rfl rfl
theorem wd_211 : (.selects RX6 yX6_has yX6_has : Cond) ∈ AW := aws 0 rfl rfl
theorem wd_212 : (.code yX0_init cX0_init 1 none : Cond) ∈ AW := aw1 23 rfl rfl
theorem wd_213 : (.instanceMethod yX0_init : Cond) ∈ AW := aw1 22 rfl rfl
theorem wd_214 : (.code yX2_init cX2_init 1 none : Cond) ∈ AW := aw1 66 rfl rfl
theorem wd_215 : (.instanceMethod yX2_init : Cond) ∈ AW := aw1 65 rfl rfl
theorem wd_216 : (.code yX1_init cX1_init 1 none : Cond) ∈ AW := aw1 101 rfl rfl
theorem wd_217 : (.instanceMethod yX1_init : Cond) ∈ AW := aw1 100 rfl rfl
theorem wd_218 : (.methodLink RX7 39 yX6_init : Cond) ∈ AW := aw1 145 rfl rfl
theorem wd_219 : (.code yX5_init cX5_init 2 none : Cond) ∈ AW := aw1 150 rfl rfl
theorem wd_220 : (.initialized RX5 : Cond) ∈ AW := aw1 7 rfl rfl
theorem wd_221 : (.methodLink RX7 48 yX5_init : Cond) ∈ AW := aw1 148 rfl rfl
theorem wd_222 : (.instanceMethod yX5_init : Cond) ∈ AW := aw1 149 rfl rfl
theorem wd_223 : (.code yX4_init cX4_init 1 none : Cond) ∈ AW := aw1 165 rfl rfl
theorem wd_224 : (.instanceMethod yX4_init : Cond) ∈ AW := aw1 164 rfl rfl
theorem wd_225 : (.code yX3_init cX3_init 1 none : Cond) ∈ AW := aw1 204 rfl rfl
theorem wd_226 : (.instanceMethod yX3_init : Cond) ∈ AW := aw1 203 rfl rfl
theorem wd_227 : (.methodLink RX7 86 yX6_set : Cond) ∈ AW := aw1 236 rfl rfl
theorem wd_228 : (.code yX7_within cX7_within 3 (some .boolean) : Cond) ∈ AW := aw2 56 rfl rfl
theorem wd_229 : (.initialized RX7 : Cond) ∈ AW := aw1 1 rfl rfl
theorem wd_230 : (.methodLink RX7 90 yX7_within : Cond) ∈ AW := aw2 54 rfl rfl
theorem wd_231 : (.static yX7_within : Cond) ∈ AW := aw2 55 rfl rfl
theorem wd_232 : (.code yX0_size cX0_size 1 (some .int) : Cond) ∈ AW := aw2 68 rfl rfl
theorem wd_233 : (.methodLink RX7 94 yX0_size : Cond) ∈ AW := aw2 65 rfl rfl
theorem wd_234 : (.instanceMethod yX0_size : Cond) ∈ AW := aw2 66 rfl rfl
theorem wd_235 : (.selects RX0 yX0_size yX0_size : Cond) ∈ AW := aw2 67 rfl rfl
theorem wd_236 : (.methodLink RX7 101 yX6_isFull : Cond) ∈ AW := aw2 69 rfl rfl
theorem wd_237 : (.code yX0_lay cX0_lay 6 (some .int) : Cond) ∈ AW := aw2 76 rfl rfl
theorem wd_238 : (.methodLink RX7 105 yX0_lay : Cond) ∈ AW := aw2 73 rfl rfl
theorem wd_239 : (.instanceMethod yX0_lay : Cond) ∈ AW := aw2 74 rfl rfl
theorem wd_240 : (.selects RX0 yX0_lay yX0_lay : Cond) ∈ AW := aw2 75 rfl rfl
theorem wd_241 : (.methodLink RX7 112 yX6_get : Cond) ∈ AW := aw2 87 rfl rfl
theorem wd_242 : (.code yX0_coalDownFrom cX0_coalDownFrom 4 (some .int) : Cond) ∈ AW := aw2 98 rfl rfl
theorem wd_243 : (.methodLink RX7 122 yX0_coalDownFrom : Cond) ∈ AW := aw2 95 rfl rfl
theorem wd_244 : (.instanceMethod yX0_coalDownFrom : Cond) ∈ AW := aw2 96 rfl rfl
theorem wd_245 : (.selects RX0 yX0_coalDownFrom yX0_coalDownFrom : Cond) ∈ AW := aw2 97 rfl rfl
theorem wd_246 : (.code yX7_followRules cX7_followRules 3 none : Cond) ∈ AW := aw2 116 rfl rfl
theorem wd_247 : (.methodLink RX7 140 yX7_followRules : Cond) ∈ AW := aw2 113 rfl rfl
theorem wd_248 : (.instanceMethod yX7_followRules : Cond) ∈ AW := aw2 115 rfl rfl
theorem wd_249 : (.selects RX7 yX7_followRules yX7_followRules : Cond) ∈ AW := aws 1 rfl rfl
theorem wd_250 : (.code yX1_blow cX1_blow 6 none : Cond) ∈ AW := aw2 137 rfl rfl
theorem wd_251 : (.methodLink RX7 143 yX1_blow : Cond) ∈ AW := aw2 134 rfl rfl
theorem wd_252 : (.instanceMethod yX1_blow : Cond) ∈ AW := aw2 135 rfl rfl
theorem wd_253 : (.selects RX1 yX1_blow yX1_blow : Cond) ∈ AW := aw2 136 rfl rfl
theorem wd_254 : (.code yX5_look cX5_look 5 none : Cond) ∈ AW := aw2 172 rfl rfl
theorem wd_255 : (.methodLink RX7 156 yX5_look : Cond) ∈ AW := aw2 169 rfl rfl
theorem wd_256 : (.instanceMethod yX5_look : Cond) ∈ AW := aw2 170 rfl rfl
theorem wd_257 : (.selects RX5 yX5_look yX5_look : Cond) ∈ AW := aw2 171 rfl rfl
theorem wd_258 : (.code yX7_castPig cX7_castPig 2 (some .int) : Cond) ∈ AW := aw2 128 rfl rfl
theorem wd_259 : (.methodLink RX7 159 yX7_castPig : Cond) ∈ AW := aw2 125 rfl rfl
theorem wd_260 : (.instanceMethod yX7_castPig : Cond) ∈ AW := aw2 127 rfl rfl
theorem wd_261 : (.selects RX7 yX7_castPig yX7_castPig : Cond) ∈ AW := aws 3 rfl rfl
theorem wd_262 : (.methodLink RX7 186 yX6_add : Cond) ∈ AW := aw2 129 rfl rfl
theorem wd_263 : (.code yX4_settle cX4_settle 4 none : Cond) ∈ AW := aw2 216 rfl rfl
theorem wd_264 : (.methodLink RX7 189 yX4_settle : Cond) ∈ AW := aw2 213 rfl rfl
theorem wd_265 : (.instanceMethod yX4_settle : Cond) ∈ AW := aw2 214 rfl rfl
theorem wd_266 : (.selects RX4 yX4_settle yX4_settle : Cond) ∈ AW := aw2 215 rfl rfl
theorem wd_267 : (.code yX3_readMonths cX3_readMonths 9 none : Cond) ∈ AW := aw3 13 rfl rfl
theorem wd_268 : (.methodLink RX7 208 yX3_readMonths : Cond) ∈ AW := aw3 10 rfl rfl
theorem wd_269 : (.instanceMethod yX3_readMonths : Cond) ∈ AW := aw3 11 rfl rfl
theorem wd_270 : (.selects RX3 yX3_readMonths yX3_readMonths : Cond) ∈ AW := aw3 12 rfl rfl
theorem wd_271 : (.code yX3_settle cX3_settle 5 (some .int) : Cond) ∈ AW := aw3 20 rfl rfl
theorem wd_272 : (.methodLink RX7 212 yX3_settle : Cond) ∈ AW := aw3 17 rfl rfl
theorem wd_273 : (.instanceMethod yX3_settle : Cond) ∈ AW := aw3 18 rfl rfl
theorem wd_274 : (.selects RX3 yX3_settle yX3_settle : Cond) ∈ AW := aw3 19 rfl rfl
theorem wd_275 : (.code yX7_count cX7_count 2 (some .int) : Cond) ∈ AW := aw3 31 rfl rfl
theorem wd_276 : (.methodLink RX7 223 yX7_count : Cond) ∈ AW := aw3 38 rfl rfl
theorem wd_277 : (.instanceMethod yX7_count : Cond) ∈ AW := aw3 29 rfl rfl
theorem wd_278 : (.selects RX7 yX7_count yX7_count : Cond) ∈ AW := aw3 30 rfl rfl
theorem wd_279 : (.code yX7_about cX7_about 2 (some .int) : Cond) ∈ AW := aw2 180 rfl rfl
theorem wd_280 : (.methodLink RX7 226 yX7_about : Cond) ∈ AW := aw3 39 rfl rfl
theorem wd_281 : (.instanceMethod yX7_about : Cond) ∈ AW := aw2 178 rfl rfl
theorem wd_282 : (.selects RX7 yX7_about yX7_about : Cond) ∈ AW := aw2 179 rfl rfl
theorem wd_283 : (.code yX6_mixInto cX6_mixInto 5 (some .long) : Cond) ∈ AW := aw3 43 rfl rfl
theorem wd_284 : (.methodLink RX7 229 yX6_mixInto : Cond) ∈ AW := aw3 40 rfl rfl
theorem wd_285 : (.instanceMethod yX6_mixInto : Cond) ∈ AW := aw3 41 rfl rfl
theorem wd_286 : (.selects RX6 yX6_mixInto yX6_mixInto : Cond) ∈ AW := aw3 42 rfl rfl
theorem wd_287 : (.code yX2_empty cX2_empty 1 none : Cond) ∈ AW := aw2 133 rfl rfl
theorem wd_288 : (.methodLink RX7 242 yX2_empty : Cond) ∈ AW := aw2 130 rfl rfl
theorem wd_289 : (.instanceMethod yX2_empty : Cond) ∈ AW := aw2 131 rfl rfl
theorem wd_290 : (.selects RX2 yX2_empty yX2_empty : Cond) ∈ AW := aw2 132 rfl rfl
theorem wd_291 : (.code yX7_isCalledFor cX7_isCalledFor 5 (some .boolean) : Cond) ∈ AW := aw2 120 rfl rfl
theorem wd_292 : (.methodLink RX7 245 yX7_isCalledFor : Cond) ∈ AW := aw2 117 rfl rfl
theorem wd_293 : (.instanceMethod yX7_isCalledFor : Cond) ∈ AW := aw2 119 rfl rfl
theorem wd_294 : (.selects RX7 yX7_isCalledFor yX7_isCalledFor : Cond) ∈ AW := aws 2 rfl rfl
theorem wd_295 : (.code yX8_in cX8_in 3 (some .boolean) : Cond) ∈ AW := aw3 230 rfl rfl
theorem wd_296 : (.initialized RX8 : Cond) ∈ AW := aw1 10 rfl rfl
theorem wd_297 : (.methodLink RX8 123 yX8_in : Cond) ∈ AW := aw3 228 rfl rfl
theorem wd_298 : (.static yX8_in : Cond) ∈ AW := aw3 229 rfl rfl
theorem wd_299 : (.code yX8_tap cX8_tap 1 (some .int) : Cond) ∈ AW := aw4 35 rfl rfl
theorem wd_300 : (.methodLink RX8 137 yX8_tap : Cond) ∈ AW := aw4 32 rfl rfl
theorem wd_301 : (.instanceMethod yX8_tap : Cond) ∈ AW := aw4 33 rfl rfl
theorem wd_302 : (.selects RX8 yX8_tap yX8_tap : Cond) ∈ AW := aw4 34 rfl rfl
theorem wd_303 : (.code yX8_act cX8_act 3 none : Cond) ∈ AW := aw4 31 rfl rfl
theorem wd_304 : (.methodLink RX8 159 yX8_act : Cond) ∈ AW := aw4 28 rfl rfl
theorem wd_305 : (.instanceMethod yX8_act : Cond) ∈ AW := aw4 30 rfl rfl
theorem wd_306 : (.selects RX8 yX8_act yX8_act : Cond) ∈ AW := aws 10 rfl rfl
theorem wd_307 : (.code yX8_comesDown cX8_comesDown 2 none : Cond) ∈ AW := aw4 39 rfl rfl
theorem wd_308 : (.methodLink RX8 166 yX8_comesDown : Cond) ∈ AW := aw4 36 rfl rfl
theorem wd_309 : (.instanceMethod yX8_comesDown : Cond) ∈ AW := aw4 38 rfl rfl
theorem wd_310 : (.selects RX8 yX8_comesDown yX8_comesDown : Cond) ∈ AW := aws 11 rfl rfl
theorem wd_311 : (.code yX8_see cX8_see 3 none : Cond) ∈ AW := aw4 43 rfl rfl
theorem wd_312 : (.methodLink RX8 182 yX8_see : Cond) ∈ AW := aw4 40 rfl rfl
theorem wd_313 : (.instanceMethod yX8_see : Cond) ∈ AW := aw4 42 rfl rfl
theorem wd_314 : (.selects RX8 yX8_see yX8_see : Cond) ∈ AW := aws 12 rfl rfl
theorem wd_315 : (.code yX8_oneTick cX8_oneTick 5 none : Cond) ∈ AW := aw4 27 rfl rfl
theorem wd_316 : (.methodLink RX8 186 yX8_oneTick : Cond) ∈ AW := aw4 24 rfl rfl
theorem wd_317 : (.instanceMethod yX8_oneTick : Cond) ∈ AW := aw4 26 rfl rfl
theorem wd_318 : (.selects RX8 yX8_oneTick yX8_oneTick : Cond) ∈ AW := aws 9 rfl rfl
theorem wd_319 : (.code yX8_digit cX8_digit 5 (some .int) : Cond) ∈ AW := aw4 88 rfl rfl
theorem wd_320 : (.methodLink RX8 198 yX8_digit : Cond) ∈ AW := aw4 85 rfl rfl
theorem wd_321 : (.instanceMethod yX8_digit : Cond) ∈ AW := aw4 87 rfl rfl
theorem wd_322 : (.selects RX8 yX8_digit yX8_digit : Cond) ∈ AW := aws 15 rfl rfl
theorem wd_323 : (.code yX8_payOf cX8_payOf 6 (some .int) : Cond) ∈ AW := aw4 84 rfl rfl
theorem wd_324 : (.methodLink RX8 202 yX8_payOf : Cond) ∈ AW := aw4 81 rfl rfl
theorem wd_325 : (.instanceMethod yX8_payOf : Cond) ∈ AW := aw4 83 rfl rfl
theorem wd_326 : (.selects RX8 yX8_payOf yX8_payOf : Cond) ∈ AW := aws 14 rfl rfl
theorem wd_327 : (.code yX8_findSale cX8_findSale 5 (some .int) : Cond) ∈ AW := aw4 80 rfl rfl
theorem wd_328 : (.methodLink RX8 209 yX8_findSale : Cond) ∈ AW := aw4 77 rfl rfl
theorem wd_329 : (.instanceMethod yX8_findSale : Cond) ∈ AW := aw4 79 rfl rfl
theorem wd_330 : (.selects RX8 yX8_findSale yX8_findSale : Cond) ∈ AW := aws 13 rfl rfl
theorem wd_331 : (.code yX8_ironOf cX8_ironOf 14 (some .int) : Cond) ∈ AW := aw4 108 rfl rfl
theorem wd_332 : (.methodLink RX8 215 yX8_ironOf : Cond) ∈ AW := aw4 105 rfl rfl
theorem wd_333 : (.instanceMethod yX8_ironOf : Cond) ∈ AW := aw4 107 rfl rfl
theorem wd_334 : (.selects RX8 yX8_ironOf yX8_ironOf : Cond) ∈ AW := aws 16 rfl rfl
theorem wd_335 : (.code yX8_count cX8_count 4 (some .int) : Cond) ∈ AW := aw4 116 rfl rfl
theorem wd_336 : (.methodLink RX8 226 yX8_count : Cond) ∈ AW := aw4 123 rfl rfl
theorem wd_337 : (.instanceMethod yX8_count : Cond) ∈ AW := aw4 114 rfl rfl
theorem wd_338 : (.selects RX8 yX8_count yX8_count : Cond) ∈ AW := aw4 115 rfl rfl
theorem wd_339 : (.code yX8_about cX8_about 2 (some .int) : Cond) ∈ AW := aw4 48 rfl rfl
theorem wd_340 : (.methodLink RX8 229 yX8_about : Cond) ∈ AW := aw4 124 rfl rfl
theorem wd_341 : (.instanceMethod yX8_about : Cond) ∈ AW := aw4 46 rfl rfl
theorem wd_342 : (.selects RX8 yX8_about yX8_about : Cond) ∈ AW := aw4 47 rfl rfl
theorem wd_343 : (.code yX8_chargeAt cX8_chargeAt 3 (some .int) : Cond) ∈ AW := aw4 6 rfl rfl
theorem wd_344 : (.methodLink RX8 232 yX8_chargeAt : Cond) ∈ AW := aw4 125 rfl rfl
theorem wd_345 : (.instanceMethod yX8_chargeAt : Cond) ∈ AW := aw4 4 rfl rfl
theorem wd_346 : (.selects RX8 yX8_chargeAt yX8_chargeAt : Cond) ∈ AW := aw4 5 rfl rfl
theorem wd_347 : (.code yX8_pig cX8_pig 3 (some .int) : Cond) ∈ AW := aw4 52 rfl rfl
theorem wd_348 : (.methodLink RX8 235 yX8_pig : Cond) ∈ AW := aw4 126 rfl rfl
theorem wd_349 : (.instanceMethod yX8_pig : Cond) ∈ AW := aw4 50 rfl rfl
theorem wd_350 : (.selects RX8 yX8_pig yX8_pig : Cond) ∈ AW := aw4 51 rfl rfl
theorem wd_351 : (.code yX7_init cX7_init 2 none : Cond) ∈ AW := aw1 15 rfl rfl
theorem wd_352 : (.methodLink RL 9 yX7_init : Cond) ∈ AW := aw1 13 rfl rfl
theorem wd_353 : (.instanceMethod yX7_init : Cond) ∈ AW := aw1 14 rfl rfl
theorem wd_354 : (.code yX8_init cX8_init 2 none : Cond) ∈ AW := aw3 49 rfl rfl
theorem wd_355 : (.methodLink RL 12 yX8_init : Cond) ∈ AW := aw3 47 rfl rfl
theorem wd_356 : (.instanceMethod yX8_init : Cond) ∈ AW := aw3 48 rfl rfl
theorem wd_357 : (.code yX7_buy cX7_buy 3 (some .int) : Cond) ∈ AW := aw2 53 rfl rfl
theorem wd_358 : (.methodLink RL 13 yX7_buy : Cond) ∈ AW := aw2 50 rfl rfl
theorem wd_359 : (.instanceMethod yX7_buy : Cond) ∈ AW := aw2 51 rfl rfl
theorem wd_360 : (.selects RX7 yX7_buy yX7_buy : Cond) ∈ AW := aw2 52 rfl rfl
theorem wd_361 : (.code yX8_buy cX8_buy 3 (some .int) : Cond) ∈ AW := aw3 227 rfl rfl
theorem wd_362 : (.methodLink RL 17 yX8_buy : Cond) ∈ AW := aw3 224 rfl rfl
theorem wd_363 : (.instanceMethod yX8_buy : Cond) ∈ AW := aw3 225 rfl rfl
theorem wd_364 : (.selects RX8 yX8_buy yX8_buy : Cond) ∈ AW := aw3 226 rfl rfl
theorem wd_365 : (.code yX7_rich cX7_rich 4 (some .int) : Cond) ∈ AW := aw2 60 rfl rfl
theorem wd_366 : (.methodLink RL 18 yX7_rich : Cond) ∈ AW := aw2 57 rfl rfl
theorem wd_367 : (.instanceMethod yX7_rich : Cond) ∈ AW := aw2 58 rfl rfl
theorem wd_368 : (.selects RX7 yX7_rich yX7_rich : Cond) ∈ AW := aw2 59 rfl rfl
theorem wd_369 : (.code yX8_rich cX8_rich 4 (some .int) : Cond) ∈ AW := aw3 238 rfl rfl
theorem wd_370 : (.methodLink RL 21 yX8_rich : Cond) ∈ AW := aw3 235 rfl rfl
theorem wd_371 : (.instanceMethod yX8_rich : Cond) ∈ AW := aw3 236 rfl rfl
theorem wd_372 : (.selects RX8 yX8_rich yX8_rich : Cond) ∈ AW := aw3 237 rfl rfl
theorem wd_373 : (.code yX7_charge cX7_charge 6 (some .int) : Cond) ∈ AW := aw2 64 rfl rfl
theorem wd_374 : (.methodLink RL 22 yX7_charge : Cond) ∈ AW := aw2 61 rfl rfl
theorem wd_375 : (.instanceMethod yX7_charge : Cond) ∈ AW := aw2 62 rfl rfl
theorem wd_376 : (.selects RX7 yX7_charge yX7_charge : Cond) ∈ AW := aw2 63 rfl rfl
theorem wd_377 : (.code yX8_charge cX8_charge 5 (some .int) : Cond) ∈ AW := aw4 2 rfl rfl
theorem wd_378 : (.methodLink RL 26 yX8_charge : Cond) ∈ AW := aw3 239 rfl rfl
theorem wd_379 : (.instanceMethod yX8_charge : Cond) ∈ AW := aw4 0 rfl rfl
theorem wd_380 : (.selects RX8 yX8_charge yX8_charge : Cond) ∈ AW := aw4 1 rfl rfl
theorem wd_381 : (.code yX7_chargeAt cX7_chargeAt 3 (some .int) : Cond) ∈ AW := aw2 86 rfl rfl
theorem wd_382 : (.methodLink RL 27 yX7_chargeAt : Cond) ∈ AW := aw2 83 rfl rfl
theorem wd_383 : (.instanceMethod yX7_chargeAt : Cond) ∈ AW := aw2 84 rfl rfl
theorem wd_384 : (.selects RX7 yX7_chargeAt yX7_chargeAt : Cond) ∈ AW := aw2 85 rfl rfl
theorem wd_385 : (.methodLink RL 30 yX8_chargeAt : Cond) ∈ AW := aw4 3 rfl rfl
theorem wd_386 : (.code yX7_when cX7_when 3 (some .int) : Cond) ∈ AW := aw2 94 rfl rfl
theorem wd_387 : (.methodLink RL 31 yX7_when : Cond) ∈ AW := aw2 91 rfl rfl
theorem wd_388 : (.instanceMethod yX7_when : Cond) ∈ AW := aw2 92 rfl rfl
theorem wd_389 : (.selects RX7 yX7_when yX7_when : Cond) ∈ AW := aw2 93 rfl rfl
theorem wd_390 : (.code yX8_when cX8_when 4 (some .int) : Cond) ∈ AW := aw4 10 rfl rfl
theorem wd_391 : (.methodLink RL 35 yX8_when : Cond) ∈ AW := aw4 7 rfl rfl
theorem wd_392 : (.instanceMethod yX8_when : Cond) ∈ AW := aw4 8 rfl rfl
theorem wd_393 : (.selects RX8 yX8_when yX8_when : Cond) ∈ AW := aw4 9 rfl rfl
theorem wd_394 : (.code yX7_blast cX7_blast 3 (some .int) : Cond) ∈ AW := aw2 103 rfl rfl
theorem wd_395 : (.methodLink RL 36 yX7_blast : Cond) ∈ AW := aw2 100 rfl rfl
theorem wd_396 : (.instanceMethod yX7_blast : Cond) ∈ AW := aw2 101 rfl rfl
theorem wd_397 : (.selects RX7 yX7_blast yX7_blast : Cond) ∈ AW := aw2 102 rfl rfl
theorem wd_398 : (.code yX8_blast cX8_blast 3 (some .int) : Cond) ∈ AW := aw4 14 rfl rfl
theorem wd_399 : (.methodLink RL 39 yX8_blast : Cond) ∈ AW := aw4 11 rfl rfl
theorem wd_400 : (.instanceMethod yX8_blast : Cond) ∈ AW := aw4 12 rfl rfl
theorem wd_401 : (.selects RX8 yX8_blast yX8_blast : Cond) ∈ AW := aw4 13 rfl rfl
theorem wd_402 : (.code yX7_hearth cX7_hearth 3 (some .int) : Cond) ∈ AW := aw2 107 rfl rfl
theorem wd_403 : (.methodLink RL 40 yX7_hearth : Cond) ∈ AW := aw2 104 rfl rfl
theorem wd_404 : (.instanceMethod yX7_hearth : Cond) ∈ AW := aw2 105 rfl rfl
theorem wd_405 : (.selects RX7 yX7_hearth yX7_hearth : Cond) ∈ AW := aw2 106 rfl rfl
theorem wd_406 : (.code yX8_hearth cX8_hearth 3 (some .int) : Cond) ∈ AW := aw4 18 rfl rfl
theorem wd_407 : (.methodLink RL 43 yX8_hearth : Cond) ∈ AW := aw4 15 rfl rfl
theorem wd_408 : (.instanceMethod yX8_hearth : Cond) ∈ AW := aw4 16 rfl rfl
theorem wd_409 : (.selects RX8 yX8_hearth yX8_hearth : Cond) ∈ AW := aw4 17 rfl rfl
theorem wd_410 : (.code yX7_tick cX7_tick 4 (some .int) : Cond) ∈ AW := aw2 112 rfl rfl
theorem wd_411 : (.methodLink RL 44 yX7_tick : Cond) ∈ AW := aw2 109 rfl rfl
theorem wd_412 : (.instanceMethod yX7_tick : Cond) ∈ AW := aw2 110 rfl rfl
theorem wd_413 : (.selects RX7 yX7_tick yX7_tick : Cond) ∈ AW := aw2 111 rfl rfl
theorem wd_414 : (.code yX8_tick cX8_tick 3 (some .int) : Cond) ∈ AW := aw4 23 rfl rfl
theorem wd_415 : (.methodLink RL 47 yX8_tick : Cond) ∈ AW := aw4 20 rfl rfl
theorem wd_416 : (.instanceMethod yX8_tick : Cond) ∈ AW := aw4 21 rfl rfl
theorem wd_417 : (.selects RX8 yX8_tick yX8_tick : Cond) ∈ AW := aw4 22 rfl rfl
theorem wd_418 : (.code yX7_tap cX7_tap 1 (some .int) : Cond) ∈ AW := aw2 176 rfl rfl
theorem wd_419 : (.methodLink RL 48 yX7_tap : Cond) ∈ AW := aw2 173 rfl rfl
theorem wd_420 : (.instanceMethod yX7_tap : Cond) ∈ AW := aw2 174 rfl rfl
theorem wd_421 : (.selects RX7 yX7_tap yX7_tap : Cond) ∈ AW := aw2 175 rfl rfl
theorem wd_422 : (.methodLink RL 52 yX8_tap : Cond) ∈ AW := aw4 44 rfl rfl
theorem wd_423 : (.methodLink RL 53 yX7_about : Cond) ∈ AW := aw2 177 rfl rfl
theorem wd_424 : (.methodLink RL 56 yX8_about : Cond) ∈ AW := aw4 45 rfl rfl
theorem wd_425 : (.code yX7_store cX7_store 2 (some .int) : Cond) ∈ AW := aw2 184 rfl rfl
theorem wd_426 : (.methodLink RL 57 yX7_store : Cond) ∈ AW := aw2 181 rfl rfl
theorem wd_427 : (.instanceMethod yX7_store : Cond) ∈ AW := aw2 182 rfl rfl
theorem wd_428 : (.selects RX7 yX7_store yX7_store : Cond) ∈ AW := aw2 183 rfl rfl
theorem wd_429 : (.code yX8_store cX8_store 2 (some .int) : Cond) ∈ AW := aw3 234 rfl rfl
theorem wd_430 : (.methodLink RL 60 yX8_store : Cond) ∈ AW := aw3 231 rfl rfl
theorem wd_431 : (.instanceMethod yX8_store : Cond) ∈ AW := aw3 232 rfl rfl
theorem wd_432 : (.selects RX8 yX8_store yX8_store : Cond) ∈ AW := aw3 233 rfl rfl
theorem wd_433 : (.code yX7_pig cX7_pig 3 (some .int) : Cond) ∈ AW := aw2 188 rfl rfl
theorem wd_434 : (.methodLink RL 61 yX7_pig : Cond) ∈ AW := aw2 185 rfl rfl
theorem wd_435 : (.instanceMethod yX7_pig : Cond) ∈ AW := aw2 186 rfl rfl
theorem wd_436 : (.selects RX7 yX7_pig yX7_pig : Cond) ∈ AW := aw2 187 rfl rfl
theorem wd_437 : (.methodLink RL 64 yX8_pig : Cond) ∈ AW := aw4 49 rfl rfl
theorem wd_438 : (.code yX7_sign cX7_sign 2 (some .int) : Cond) ∈ AW := aw2 192 rfl rfl
theorem wd_439 : (.methodLink RL 65 yX7_sign : Cond) ∈ AW := aw2 189 rfl rfl
theorem wd_440 : (.instanceMethod yX7_sign : Cond) ∈ AW := aw2 190 rfl rfl
theorem wd_441 : (.selects RX7 yX7_sign yX7_sign : Cond) ∈ AW := aw2 191 rfl rfl
theorem wd_442 : (.code yX8_sign cX8_sign 2 (some .int) : Cond) ∈ AW := aw4 56 rfl rfl
theorem wd_443 : (.methodLink RL 68 yX8_sign : Cond) ∈ AW := aw4 53 rfl rfl
theorem wd_444 : (.instanceMethod yX8_sign : Cond) ∈ AW := aw4 54 rfl rfl
theorem wd_445 : (.selects RX8 yX8_sign yX8_sign : Cond) ∈ AW := aw4 55 rfl rfl
theorem wd_446 : (.code yX7_lose cX7_lose 3 (some .int) : Cond) ∈ AW := aw2 196 rfl rfl
theorem wd_447 : (.methodLink RL 69 yX7_lose : Cond) ∈ AW := aw2 193 rfl rfl
theorem wd_448 : (.instanceMethod yX7_lose : Cond) ∈ AW := aw2 194 rfl rfl
theorem wd_449 : (.selects RX7 yX7_lose yX7_lose : Cond) ∈ AW := aw2 195 rfl rfl
theorem wd_450 : (.code yX8_lose cX8_lose 3 (some .int) : Cond) ∈ AW := aw4 60 rfl rfl
theorem wd_451 : (.methodLink RL 72 yX8_lose : Cond) ∈ AW := aw4 57 rfl rfl
theorem wd_452 : (.instanceMethod yX8_lose : Cond) ∈ AW := aw4 58 rfl rfl
theorem wd_453 : (.selects RX8 yX8_lose yX8_lose : Cond) ∈ AW := aw4 59 rfl rfl
theorem wd_454 : (.code yX7_rule cX7_rule 6 (some .int) : Cond) ∈ AW := aw2 200 rfl rfl
theorem wd_455 : (.methodLink RL 73 yX7_rule : Cond) ∈ AW := aw2 197 rfl rfl
theorem wd_456 : (.instanceMethod yX7_rule : Cond) ∈ AW := aw2 198 rfl rfl
theorem wd_457 : (.selects RX7 yX7_rule yX7_rule : Cond) ∈ AW := aw2 199 rfl rfl
theorem wd_458 : (.code yX8_rule cX8_rule 5 (some .int) : Cond) ∈ AW := aw4 64 rfl rfl
theorem wd_459 : (.methodLink RL 77 yX8_rule : Cond) ∈ AW := aw4 61 rfl rfl
theorem wd_460 : (.instanceMethod yX8_rule : Cond) ∈ AW := aw4 62 rfl rfl
theorem wd_461 : (.selects RX8 yX8_rule yX8_rule : Cond) ∈ AW := aw4 63 rfl rfl
theorem wd_462 : (.code yX7_unrule cX7_unrule 2 (some .int) : Cond) ∈ AW := aw2 204 rfl rfl
theorem wd_463 : (.methodLink RL 78 yX7_unrule : Cond) ∈ AW := aw2 201 rfl rfl
theorem wd_464 : (.instanceMethod yX7_unrule : Cond) ∈ AW := aw2 202 rfl rfl
theorem wd_465 : (.selects RX7 yX7_unrule yX7_unrule : Cond) ∈ AW := aw2 203 rfl rfl
theorem wd_466 : (.code yX8_unrule cX8_unrule 2 (some .int) : Cond) ∈ AW := aw4 68 rfl rfl
theorem wd_467 : (.methodLink RL 81 yX8_unrule : Cond) ∈ AW := aw4 65 rfl rfl
theorem wd_468 : (.instanceMethod yX8_unrule : Cond) ∈ AW := aw4 66 rfl rfl
theorem wd_469 : (.selects RX8 yX8_unrule yX8_unrule : Cond) ∈ AW := aw4 67 rfl rfl
theorem wd_470 : (.code yX7_forge cX7_forge 5 (some .int) : Cond) ∈ AW := aw2 208 rfl rfl
theorem wd_471 : (.methodLink RL 82 yX7_forge : Cond) ∈ AW := aw2 205 rfl rfl
theorem wd_472 : (.instanceMethod yX7_forge : Cond) ∈ AW := aw2 206 rfl rfl
theorem wd_473 : (.selects RX7 yX7_forge yX7_forge : Cond) ∈ AW := aw2 207 rfl rfl
theorem wd_474 : (.code yX8_forge cX8_forge 4 (some .int) : Cond) ∈ AW := aw4 72 rfl rfl
theorem wd_475 : (.methodLink RL 86 yX8_forge : Cond) ∈ AW := aw4 69 rfl rfl
theorem wd_476 : (.instanceMethod yX8_forge : Cond) ∈ AW := aw4 70 rfl rfl
theorem wd_477 : (.selects RX8 yX8_forge yX8_forge : Cond) ∈ AW := aw4 71 rfl rfl
theorem wd_478 : (.code yX7_sale cX7_sale 1 (some .int) : Cond) ∈ AW := aw2 212 rfl rfl
theorem wd_479 : (.methodLink RL 87 yX7_sale : Cond) ∈ AW := aw2 209 rfl rfl
theorem wd_480 : (.instanceMethod yX7_sale : Cond) ∈ AW := aw2 210 rfl rfl
theorem wd_481 : (.selects RX7 yX7_sale yX7_sale : Cond) ∈ AW := aw2 211 rfl rfl
theorem wd_482 : (.code yX8_sale cX8_sale 1 (some .int) : Cond) ∈ AW := aw4 76 rfl rfl
theorem wd_483 : (.methodLink RL 90 yX8_sale : Cond) ∈ AW := aw4 73 rfl rfl
theorem wd_484 : (.instanceMethod yX8_sale : Cond) ∈ AW := aw4 74 rfl rfl
theorem wd_485 : (.selects RX8 yX8_sale yX8_sale : Cond) ∈ AW := aw4 75 rfl rfl
theorem wd_486 : (.code yX7_sell cX7_sell 5 (some .int) : Cond) ∈ AW := aw2 237 rfl rfl
theorem wd_487 : (.methodLink RL 91 yX7_sell : Cond) ∈ AW := aw2 234 rfl rfl
theorem wd_488 : (.instanceMethod yX7_sell : Cond) ∈ AW := aw2 235 rfl rfl
theorem wd_489 : (.selects RX7 yX7_sell yX7_sell : Cond) ∈ AW := aw2 236 rfl rfl
theorem wd_490 : (.code yX8_sell cX8_sell 5 (some .int) : Cond) ∈ AW := aw4 92 rfl rfl
theorem wd_491 : (.methodLink RL 94 yX8_sell : Cond) ∈ AW := aw4 89 rfl rfl
theorem wd_492 : (.instanceMethod yX8_sell : Cond) ∈ AW := aw4 90 rfl rfl
theorem wd_493 : (.selects RX8 yX8_sell yX8_sell : Cond) ∈ AW := aw4 91 rfl rfl
theorem wd_494 : (.code yX7_month cX7_month 4 (some .int) : Cond) ∈ AW := aw3 1 rfl rfl
theorem wd_495 : (.methodLink RL 95 yX7_month : Cond) ∈ AW := aw2 238 rfl rfl
theorem wd_496 : (.instanceMethod yX7_month : Cond) ∈ AW := aw2 239 rfl rfl
theorem wd_497 : (.selects RX7 yX7_month yX7_month : Cond) ∈ AW := aw3 0 rfl rfl
theorem wd_498 : (.code yX8_month cX8_month 4 (some .int) : Cond) ∈ AW := aw4 96 rfl rfl
theorem wd_499 : (.methodLink RL 98 yX8_month : Cond) ∈ AW := aw4 93 rfl rfl
theorem wd_500 : (.instanceMethod yX8_month : Cond) ∈ AW := aw4 94 rfl rfl
theorem wd_501 : (.selects RX8 yX8_month yX8_month : Cond) ∈ AW := aw4 95 rfl rfl
theorem wd_502 : (.code yX7_pace cX7_pace 5 (some .int) : Cond) ∈ AW := aw3 5 rfl rfl
theorem wd_503 : (.methodLink RL 99 yX7_pace : Cond) ∈ AW := aw3 2 rfl rfl
theorem wd_504 : (.instanceMethod yX7_pace : Cond) ∈ AW := aw3 3 rfl rfl
theorem wd_505 : (.selects RX7 yX7_pace yX7_pace : Cond) ∈ AW := aw3 4 rfl rfl
theorem wd_506 : (.code yX8_pace cX8_pace 5 (some .int) : Cond) ∈ AW := aw4 100 rfl rfl
theorem wd_507 : (.methodLink RL 102 yX8_pace : Cond) ∈ AW := aw4 97 rfl rfl
theorem wd_508 : (.instanceMethod yX8_pace : Cond) ∈ AW := aw4 98 rfl rfl
theorem wd_509 : (.selects RX8 yX8_pace yX8_pace : Cond) ∈ AW := aw4 99 rfl rfl
theorem wd_510 : (.code yX7_plan cX7_plan 5 (some .int) : Cond) ∈ AW := aw3 9 rfl rfl
theorem wd_511 : (.methodLink RL 103 yX7_plan : Cond) ∈ AW := aw3 6 rfl rfl
theorem wd_512 : (.instanceMethod yX7_plan : Cond) ∈ AW := aw3 7 rfl rfl
theorem wd_513 : (.selects RX7 yX7_plan yX7_plan : Cond) ∈ AW := aw3 8 rfl rfl
theorem wd_514 : (.code yX8_plan cX8_plan 10 (some .int) : Cond) ∈ AW := aw4 104 rfl rfl
theorem wd_515 : (.methodLink RL 106 yX8_plan : Cond) ∈ AW := aw4 101 rfl rfl
theorem wd_516 : (.instanceMethod yX8_plan : Cond) ∈ AW := aw4 102 rfl rfl
theorem wd_517 : (.selects RX8 yX8_plan yX8_plan : Cond) ∈ AW := aw4 103 rfl rfl
theorem wd_518 : (.code yX7_paceAt cX7_paceAt 2 (some .int) : Cond) ∈ AW := aw3 27 rfl rfl
theorem wd_519 : (.methodLink RL 107 yX7_paceAt : Cond) ∈ AW := aw3 24 rfl rfl
theorem wd_520 : (.instanceMethod yX7_paceAt : Cond) ∈ AW := aw3 25 rfl rfl
theorem wd_521 : (.selects RX7 yX7_paceAt yX7_paceAt : Cond) ∈ AW := aw3 26 rfl rfl
theorem wd_522 : (.code yX8_paceAt cX8_paceAt 2 (some .int) : Cond) ∈ AW := aw4 112 rfl rfl
theorem wd_523 : (.methodLink RL 110 yX8_paceAt : Cond) ∈ AW := aw4 109 rfl rfl
theorem wd_524 : (.instanceMethod yX8_paceAt : Cond) ∈ AW := aw4 110 rfl rfl
theorem wd_525 : (.selects RX8 yX8_paceAt yX8_paceAt : Cond) ∈ AW := aw4 111 rfl rfl
theorem wd_526 : (.methodLink RL 111 yX7_count : Cond) ∈ AW := aw3 28 rfl rfl
theorem wd_527 : (.methodLink RL 114 yX8_count : Cond) ∈ AW := aw4 113 rfl rfl
theorem wd_528 : (.code yX7_digest cX7_digest 4 (some .long) : Cond) ∈ AW := aw3 35 rfl rfl
theorem wd_529 : (.methodLink RL 115 yX7_digest : Cond) ∈ AW := aw3 32 rfl rfl
theorem wd_530 : (.instanceMethod yX7_digest : Cond) ∈ AW := aw3 33 rfl rfl
theorem wd_531 : (.selects RX7 yX7_digest yX7_digest : Cond) ∈ AW := aw3 34 rfl rfl
theorem wd_532 : (.code yX8_digest cX8_digest 5 (some .long) : Cond) ∈ AW := aw4 120 rfl rfl
theorem wd_533 : (.methodLink RL 119 yX8_digest : Cond) ∈ AW := aw4 117 rfl rfl
theorem wd_534 : (.instanceMethod yX8_digest : Cond) ∈ AW := aw4 118 rfl rfl
theorem wd_535 : (.selects RX8 yX8_digest yX8_digest : Cond) ∈ AW := aw4 119 rfl rfl
theorem wd_536 : (.methodLink RX0 3 Lib.objectInit : Cond) ∈ AW := aw1 24 rfl rfl
theorem wd_537 : (.instanceMethod Lib.objectInit : Cond) ∈ AW := aw1 17 rfl rfl
theorem wd_538 : (.code Lib.objectInit ⟨#[0xb1]⟩ 1 none : Cond) ∈ AW := aw1 18 rfl rfl
theorem wd_539 : (.classLink RX0 9 RX6 : Cond) ∈ AW := aw1 25 rfl rfl
theorem wd_540 : (.instantiable RX6 4 : Cond) ∈ AW := aw1 26 rfl rfl
theorem wd_541 : (.methodLink RX1 3 Lib.objectInit : Cond) ∈ AW := aw1 102 rfl rfl
theorem wd_542 : (.methodLink RX2 3 Lib.objectInit : Cond) ∈ AW := aw1 67 rfl rfl
theorem wd_543 : (.methodLink RX3 3 Lib.objectInit : Cond) ∈ AW := aw1 205 rfl rfl
theorem wd_544 : (.methodLink RX4 3 Lib.objectInit : Cond) ∈ AW := aw1 166 rfl rfl
theorem wd_545 : (.methodLink RX5 3 Lib.objectInit : Cond) ∈ AW := aw1 151 rfl rfl
theorem wd_546 : (.methodLink RX6 3 Lib.objectInit : Cond) ∈ AW := aw1 30 rfl rfl
theorem wd_547 : (.methodLink RX6 15 Lib.Math.max.name : Cond) ∈ AW := aw1 31 rfl rfl
theorem wd_548 : (.methodLink RX7 1 Lib.objectInit : Cond) ∈ AW := aw1 16 rfl rfl
theorem wd_549 : (.classLink RX7 16 RX0 : Cond) ∈ AW := aw1 19 rfl rfl
theorem wd_550 : (.instantiable RX0 2 : Cond) ∈ AW := aw1 20 rfl rfl
theorem wd_551 : (.classLink RX7 23 RX2 : Cond) ∈ AW := aw1 62 rfl rfl
theorem wd_552 : (.instantiable RX2 7 : Cond) ∈ AW := aw1 63 rfl rfl
theorem wd_553 : (.classLink RX7 30 RX1 : Cond) ∈ AW := aw1 97 rfl rfl
theorem wd_554 : (.instantiable RX1 10 : Cond) ∈ AW := aw1 98 rfl rfl
theorem wd_555 : (.classLink RX7 37 RX6 : Cond) ∈ AW := aw1 144 rfl rfl
theorem wd_556 : (.classLink RX7 46 RX5 : Cond) ∈ AW := aw1 146 rfl rfl
theorem wd_557 : (.instantiable RX5 2 : Cond) ∈ AW := aw1 147 rfl rfl
theorem wd_558 : (.classLink RX7 59 RX4 : Cond) ∈ AW := aw1 161 rfl rfl
theorem wd_559 : (.instantiable RX4 9 : Cond) ∈ AW := aw1 162 rfl rfl
theorem wd_560 : (.classLink RX7 72 RX3 : Cond) ∈ AW := aw1 200 rfl rfl
theorem wd_561 : (.instantiable RX3 9 : Cond) ∈ AW := aw1 201 rfl rfl
theorem wd_562 : (.methodLink RX8 1 Lib.objectInit : Cond) ∈ AW := aw3 50 rfl rfl
theorem wd_563 : (.classLink RL 7 RX7 : Cond) ∈ AW := aw1 11 rfl rfl
theorem wd_564 : (.instantiable RX7 15 : Cond) ∈ AW := aw1 12 rfl rfl
theorem wd_565 : (.classLink RL 10 RX8 : Cond) ∈ AW := aw3 45 rfl rfl
theorem wd_566 : (.instantiable RX8 57 : Cond) ∈ AW := aw3 46 rfl rfl
theorem wd_567 : (.arrayClass .int : Cond) ∈ AW := aw1 50 rfl rfl
theorem wd_568 : (.arrayClass .boolean : Cond) ∈ AW := aw3 223 rfl rfl
theorem ul_X0_0 : u_lay RX0 TX0 0 ∈ AW := aw1 57 rfl rfl
theorem ul_X0_1 : u_lay RX0 TX0 1 ∈ AW := aw1 59 rfl rfl
theorem inA_0 : ∀ w ∈ u_ws RX0 TX0 2, w ∈ AW := by
  intro w h
  obtain ⟨k, hk, rfl⟩ := List.mem_map.mp h
  have hk := List.mem_range.mp hk
  exact (match k, hk with
  | 0, _ => ul_X0_0
  | 1, _ => ul_X0_1
  | k + 2, hk => absurd hk (by omega))
theorem inM_0 {c : Cond} : ∀ w ∈ u_ws RX0 TX0 2, w ∈ c :: AW := fun w h => List.mem_cons_of_mem _ (inA_0 w h)
theorem ul_X1_0 : u_lay RX1 TX1 0 ∈ AW := aw1 123 rfl rfl
theorem ul_X1_1 : u_lay RX1 TX1 1 ∈ AW := aw1 125 rfl rfl
theorem ul_X1_2 : u_lay RX1 TX1 2 ∈ AW := aw1 127 rfl rfl
theorem ul_X1_3 : u_lay RX1 TX1 3 ∈ AW := aw1 129 rfl rfl
theorem ul_X1_4 : u_lay RX1 TX1 4 ∈ AW := aw1 131 rfl rfl
theorem ul_X1_5 : u_lay RX1 TX1 5 ∈ AW := aw1 133 rfl rfl
theorem ul_X1_6 : u_lay RX1 TX1 6 ∈ AW := aw1 135 rfl rfl
theorem ul_X1_7 : u_lay RX1 TX1 7 ∈ AW := aw1 137 rfl rfl
theorem ul_X1_8 : u_lay RX1 TX1 8 ∈ AW := aw1 139 rfl rfl
theorem ul_X1_9 : u_lay RX1 TX1 9 ∈ AW := aw1 141 rfl rfl
theorem inA_1 : ∀ w ∈ u_ws RX1 TX1 10, w ∈ AW := by
  intro w h
  obtain ⟨k, hk, rfl⟩ := List.mem_map.mp h
  have hk := List.mem_range.mp hk
  exact (match k, hk with
  | 0, _ => ul_X1_0
  | 1, _ => ul_X1_1
  | 2, _ => ul_X1_2
  | 3, _ => ul_X1_3
  | 4, _ => ul_X1_4
  | 5, _ => ul_X1_5
  | 6, _ => ul_X1_6
  | 7, _ => ul_X1_7
  | 8, _ => ul_X1_8
  | 9, _ => ul_X1_9
  | k + 10, hk => absurd hk (by omega))
theorem inM_1 {c : Cond} : ∀ w ∈ u_ws RX1 TX1 10, w ∈ c :: AW := fun w h => List.mem_cons_of_mem _ (inA_1 w h)
theorem ul_X2_0 : u_lay RX2 TX2 0 ∈ AW := aw1 82 rfl rfl
theorem ul_X2_1 : u_lay RX2 TX2 1 ∈ AW := aw1 84 rfl rfl
theorem ul_X2_2 : u_lay RX2 TX2 2 ∈ AW := aw1 86 rfl rfl
theorem ul_X2_3 : u_lay RX2 TX2 3 ∈ AW := aw1 88 rfl rfl
theorem ul_X2_4 : u_lay RX2 TX2 4 ∈ AW := aw1 90 rfl rfl
theorem ul_X2_5 : u_lay RX2 TX2 5 ∈ AW := aw1 92 rfl rfl
theorem ul_X2_6 : u_lay RX2 TX2 6 ∈ AW := aw1 94 rfl rfl
theorem inA_2 : ∀ w ∈ u_ws RX2 TX2 7, w ∈ AW := by
  intro w h
  obtain ⟨k, hk, rfl⟩ := List.mem_map.mp h
  have hk := List.mem_range.mp hk
  exact (match k, hk with
  | 0, _ => ul_X2_0
  | 1, _ => ul_X2_1
  | 2, _ => ul_X2_2
  | 3, _ => ul_X2_3
  | 4, _ => ul_X2_4
  | 5, _ => ul_X2_5
  | 6, _ => ul_X2_6
  | k + 7, hk => absurd hk (by omega))
theorem inM_2 {c : Cond} : ∀ w ∈ u_ws RX2 TX2 7, w ∈ c :: AW := fun w h => List.mem_cons_of_mem _ (inA_2 w h)
theorem ul_X3_0 : u_lay RX3 TX3 0 ∈ AW := aw1 217 rfl rfl
theorem ul_X3_1 : u_lay RX3 TX3 1 ∈ AW := aw1 219 rfl rfl
theorem ul_X3_2 : u_lay RX3 TX3 2 ∈ AW := aw1 221 rfl rfl
theorem ul_X3_3 : u_lay RX3 TX3 3 ∈ AW := aw1 223 rfl rfl
theorem ul_X3_4 : u_lay RX3 TX3 4 ∈ AW := aw1 225 rfl rfl
theorem ul_X3_5 : u_lay RX3 TX3 5 ∈ AW := aw1 227 rfl rfl
theorem ul_X3_6 : u_lay RX3 TX3 6 ∈ AW := aw1 229 rfl rfl
theorem ul_X3_7 : u_lay RX3 TX3 7 ∈ AW := aw1 231 rfl rfl
theorem ul_X3_8 : u_lay RX3 TX3 8 ∈ AW := aw1 233 rfl rfl
theorem inA_3 : ∀ w ∈ u_ws RX3 TX3 9, w ∈ AW := by
  intro w h
  obtain ⟨k, hk, rfl⟩ := List.mem_map.mp h
  have hk := List.mem_range.mp hk
  exact (match k, hk with
  | 0, _ => ul_X3_0
  | 1, _ => ul_X3_1
  | 2, _ => ul_X3_2
  | 3, _ => ul_X3_3
  | 4, _ => ul_X3_4
  | 5, _ => ul_X3_5
  | 6, _ => ul_X3_6
  | 7, _ => ul_X3_7
  | 8, _ => ul_X3_8
  | k + 9, hk => absurd hk (by omega))
theorem inM_3 {c : Cond} : ∀ w ∈ u_ws RX3 TX3 9, w ∈ c :: AW := fun w h => List.mem_cons_of_mem _ (inA_3 w h)
theorem ul_X4_0 : u_lay RX4 TX4 0 ∈ AW := aw1 181 rfl rfl
theorem ul_X4_1 : u_lay RX4 TX4 1 ∈ AW := aw1 183 rfl rfl
theorem ul_X4_2 : u_lay RX4 TX4 2 ∈ AW := aw1 185 rfl rfl
theorem ul_X4_3 : u_lay RX4 TX4 3 ∈ AW := aw1 187 rfl rfl
theorem ul_X4_4 : u_lay RX4 TX4 4 ∈ AW := aw1 189 rfl rfl
theorem ul_X4_5 : u_lay RX4 TX4 5 ∈ AW := aw1 191 rfl rfl
theorem ul_X4_6 : u_lay RX4 TX4 6 ∈ AW := aw1 193 rfl rfl
theorem ul_X4_7 : u_lay RX4 TX4 7 ∈ AW := aw1 195 rfl rfl
theorem ul_X4_8 : u_lay RX4 TX4 8 ∈ AW := aw1 197 rfl rfl
theorem inA_4 : ∀ w ∈ u_ws RX4 TX4 9, w ∈ AW := by
  intro w h
  obtain ⟨k, hk, rfl⟩ := List.mem_map.mp h
  have hk := List.mem_range.mp hk
  exact (match k, hk with
  | 0, _ => ul_X4_0
  | 1, _ => ul_X4_1
  | 2, _ => ul_X4_2
  | 3, _ => ul_X4_3
  | 4, _ => ul_X4_4
  | 5, _ => ul_X4_5
  | 6, _ => ul_X4_6
  | 7, _ => ul_X4_7
  | 8, _ => ul_X4_8
  | k + 9, hk => absurd hk (by omega))
theorem inM_4 {c : Cond} : ∀ w ∈ u_ws RX4 TX4 9, w ∈ c :: AW := fun w h => List.mem_cons_of_mem _ (inA_4 w h)
theorem ul_X5_0 : u_lay RX5 TX5 0 ∈ AW := aw1 156 rfl rfl
theorem ul_X5_1 : u_lay RX5 TX5 1 ∈ AW := aw1 158 rfl rfl
theorem inA_5 : ∀ w ∈ u_ws RX5 TX5 2, w ∈ AW := by
  intro w h
  obtain ⟨k, hk, rfl⟩ := List.mem_map.mp h
  have hk := List.mem_range.mp hk
  exact (match k, hk with
  | 0, _ => ul_X5_0
  | 1, _ => ul_X5_1
  | k + 2, hk => absurd hk (by omega))
theorem inM_5 {c : Cond} : ∀ w ∈ u_ws RX5 TX5 2, w ∈ c :: AW := fun w h => List.mem_cons_of_mem _ (inA_5 w h)
theorem ul_X6_0 : u_lay RX6 TX6 0 ∈ AW := aw1 41 rfl rfl
theorem ul_X6_1 : u_lay RX6 TX6 1 ∈ AW := aw1 43 rfl rfl
theorem ul_X6_2 : u_lay RX6 TX6 2 ∈ AW := aw1 45 rfl rfl
theorem ul_X6_3 : u_lay RX6 TX6 3 ∈ AW := aw1 47 rfl rfl
theorem inA_6 : ∀ w ∈ u_ws RX6 TX6 4, w ∈ AW := by
  intro w h
  obtain ⟨k, hk, rfl⟩ := List.mem_map.mp h
  have hk := List.mem_range.mp hk
  exact (match k, hk with
  | 0, _ => ul_X6_0
  | 1, _ => ul_X6_1
  | 2, _ => ul_X6_2
  | 3, _ => ul_X6_3
  | k + 4, hk => absurd hk (by omega))
theorem inM_6 {c : Cond} : ∀ w ∈ u_ws RX6 TX6 4, w ∈ c :: AW := fun w h => List.mem_cons_of_mem _ (inA_6 w h)
theorem ul_X7_0 : u_lay RX7 TX7 0 ∈ AW := aw2 19 rfl rfl
theorem ul_X7_1 : u_lay RX7 TX7 1 ∈ AW := aw2 21 rfl rfl
theorem ul_X7_2 : u_lay RX7 TX7 2 ∈ AW := aw2 23 rfl rfl
theorem ul_X7_3 : u_lay RX7 TX7 3 ∈ AW := aw2 25 rfl rfl
theorem ul_X7_4 : u_lay RX7 TX7 4 ∈ AW := aw2 27 rfl rfl
theorem ul_X7_5 : u_lay RX7 TX7 5 ∈ AW := aw2 29 rfl rfl
theorem ul_X7_6 : u_lay RX7 TX7 6 ∈ AW := aw2 31 rfl rfl
theorem ul_X7_7 : u_lay RX7 TX7 7 ∈ AW := aw2 33 rfl rfl
theorem ul_X7_8 : u_lay RX7 TX7 8 ∈ AW := aw2 35 rfl rfl
theorem ul_X7_9 : u_lay RX7 TX7 9 ∈ AW := aw2 37 rfl rfl
theorem ul_X7_10 : u_lay RX7 TX7 10 ∈ AW := aw2 39 rfl rfl
theorem ul_X7_11 : u_lay RX7 TX7 11 ∈ AW := aw2 41 rfl rfl
theorem ul_X7_12 : u_lay RX7 TX7 12 ∈ AW := aw2 43 rfl rfl
theorem ul_X7_13 : u_lay RX7 TX7 13 ∈ AW := aw2 45 rfl rfl
theorem ul_X7_14 : u_lay RX7 TX7 14 ∈ AW := aw2 47 rfl rfl
theorem inA_7 : ∀ w ∈ u_ws RX7 TX7 15, w ∈ AW := by
  intro w h
  obtain ⟨k, hk, rfl⟩ := List.mem_map.mp h
  have hk := List.mem_range.mp hk
  exact (match k, hk with
  | 0, _ => ul_X7_0
  | 1, _ => ul_X7_1
  | 2, _ => ul_X7_2
  | 3, _ => ul_X7_3
  | 4, _ => ul_X7_4
  | 5, _ => ul_X7_5
  | 6, _ => ul_X7_6
  | 7, _ => ul_X7_7
  | 8, _ => ul_X7_8
  | 9, _ => ul_X7_9
  | 10, _ => ul_X7_10
  | 11, _ => ul_X7_11
  | 12, _ => ul_X7_12
  | 13, _ => ul_X7_13
  | 14, _ => ul_X7_14
  | k + 15, hk => absurd hk (by omega))
theorem inM_7 {c : Cond} : ∀ w ∈ u_ws RX7 TX7 15, w ∈ c :: AW := fun w h => List.mem_cons_of_mem _ (inA_7 w h)
theorem ul_X8_0 : u_lay RX8 TX8 0 ∈ AW := aw3 108 rfl rfl
theorem ul_X8_1 : u_lay RX8 TX8 1 ∈ AW := aw3 110 rfl rfl
theorem ul_X8_2 : u_lay RX8 TX8 2 ∈ AW := aw3 112 rfl rfl
theorem ul_X8_3 : u_lay RX8 TX8 3 ∈ AW := aw3 114 rfl rfl
theorem ul_X8_4 : u_lay RX8 TX8 4 ∈ AW := aw3 116 rfl rfl
theorem ul_X8_5 : u_lay RX8 TX8 5 ∈ AW := aw3 118 rfl rfl
theorem ul_X8_6 : u_lay RX8 TX8 6 ∈ AW := aw3 120 rfl rfl
theorem ul_X8_7 : u_lay RX8 TX8 7 ∈ AW := aw3 122 rfl rfl
theorem ul_X8_8 : u_lay RX8 TX8 8 ∈ AW := aw3 124 rfl rfl
theorem ul_X8_9 : u_lay RX8 TX8 9 ∈ AW := aw3 126 rfl rfl
theorem ul_X8_10 : u_lay RX8 TX8 10 ∈ AW := aw3 128 rfl rfl
theorem ul_X8_11 : u_lay RX8 TX8 11 ∈ AW := aw3 130 rfl rfl
theorem ul_X8_12 : u_lay RX8 TX8 12 ∈ AW := aw3 132 rfl rfl
theorem ul_X8_13 : u_lay RX8 TX8 13 ∈ AW := aw3 134 rfl rfl
theorem ul_X8_14 : u_lay RX8 TX8 14 ∈ AW := aw3 136 rfl rfl
theorem ul_X8_15 : u_lay RX8 TX8 15 ∈ AW := aw3 138 rfl rfl
theorem ul_X8_16 : u_lay RX8 TX8 16 ∈ AW := aw3 140 rfl rfl
theorem ul_X8_17 : u_lay RX8 TX8 17 ∈ AW := aw3 142 rfl rfl
theorem ul_X8_18 : u_lay RX8 TX8 18 ∈ AW := aw3 144 rfl rfl
theorem ul_X8_19 : u_lay RX8 TX8 19 ∈ AW := aw3 146 rfl rfl
theorem ul_X8_20 : u_lay RX8 TX8 20 ∈ AW := aw3 148 rfl rfl
theorem ul_X8_21 : u_lay RX8 TX8 21 ∈ AW := aw3 150 rfl rfl
theorem ul_X8_22 : u_lay RX8 TX8 22 ∈ AW := aw3 152 rfl rfl
theorem ul_X8_23 : u_lay RX8 TX8 23 ∈ AW := aw3 154 rfl rfl
theorem ul_X8_24 : u_lay RX8 TX8 24 ∈ AW := aw3 156 rfl rfl
theorem ul_X8_25 : u_lay RX8 TX8 25 ∈ AW := aw3 158 rfl rfl
theorem ul_X8_26 : u_lay RX8 TX8 26 ∈ AW := aw3 160 rfl rfl
theorem ul_X8_27 : u_lay RX8 TX8 27 ∈ AW := aw3 162 rfl rfl
theorem ul_X8_28 : u_lay RX8 TX8 28 ∈ AW := aw3 164 rfl rfl
theorem ul_X8_29 : u_lay RX8 TX8 29 ∈ AW := aw3 166 rfl rfl
theorem ul_X8_30 : u_lay RX8 TX8 30 ∈ AW := aw3 168 rfl rfl
theorem ul_X8_31 : u_lay RX8 TX8 31 ∈ AW := aw3 170 rfl rfl
theorem ul_X8_32 : u_lay RX8 TX8 32 ∈ AW := aw3 172 rfl rfl
theorem ul_X8_33 : u_lay RX8 TX8 33 ∈ AW := aw3 174 rfl rfl
theorem ul_X8_34 : u_lay RX8 TX8 34 ∈ AW := aw3 176 rfl rfl
theorem ul_X8_35 : u_lay RX8 TX8 35 ∈ AW := aw3 178 rfl rfl
theorem ul_X8_36 : u_lay RX8 TX8 36 ∈ AW := aw3 180 rfl rfl
theorem ul_X8_37 : u_lay RX8 TX8 37 ∈ AW := aw3 182 rfl rfl
theorem ul_X8_38 : u_lay RX8 TX8 38 ∈ AW := aw3 184 rfl rfl
theorem ul_X8_39 : u_lay RX8 TX8 39 ∈ AW := aw3 186 rfl rfl
theorem ul_X8_40 : u_lay RX8 TX8 40 ∈ AW := aw3 188 rfl rfl
theorem ul_X8_41 : u_lay RX8 TX8 41 ∈ AW := aw3 190 rfl rfl
theorem ul_X8_42 : u_lay RX8 TX8 42 ∈ AW := aw3 192 rfl rfl
theorem ul_X8_43 : u_lay RX8 TX8 43 ∈ AW := aw3 194 rfl rfl
theorem ul_X8_44 : u_lay RX8 TX8 44 ∈ AW := aw3 196 rfl rfl
theorem ul_X8_45 : u_lay RX8 TX8 45 ∈ AW := aw3 198 rfl rfl
theorem ul_X8_46 : u_lay RX8 TX8 46 ∈ AW := aw3 200 rfl rfl
theorem ul_X8_47 : u_lay RX8 TX8 47 ∈ AW := aw3 202 rfl rfl
theorem ul_X8_48 : u_lay RX8 TX8 48 ∈ AW := aw3 204 rfl rfl
theorem ul_X8_49 : u_lay RX8 TX8 49 ∈ AW := aw3 206 rfl rfl
theorem ul_X8_50 : u_lay RX8 TX8 50 ∈ AW := aw3 208 rfl rfl
theorem ul_X8_51 : u_lay RX8 TX8 51 ∈ AW := aw3 210 rfl rfl
theorem ul_X8_52 : u_lay RX8 TX8 52 ∈ AW := aw3 212 rfl rfl
theorem ul_X8_53 : u_lay RX8 TX8 53 ∈ AW := aw3 214 rfl rfl
theorem ul_X8_54 : u_lay RX8 TX8 54 ∈ AW := aw3 216 rfl rfl
theorem ul_X8_55 : u_lay RX8 TX8 55 ∈ AW := aw3 218 rfl rfl
theorem ul_X8_56 : u_lay RX8 TX8 56 ∈ AW := aw3 220 rfl rfl
theorem inA_8 : ∀ w ∈ u_ws RX8 TX8 57, w ∈ AW := by
  intro w h
  obtain ⟨k, hk, rfl⟩ := List.mem_map.mp h
  have hk := List.mem_range.mp hk
  exact (match k, hk with
  | 0, _ => ul_X8_0
  | 1, _ => ul_X8_1
  | 2, _ => ul_X8_2
  | 3, _ => ul_X8_3
  | 4, _ => ul_X8_4
  | 5, _ => ul_X8_5
  | 6, _ => ul_X8_6
  | 7, _ => ul_X8_7
  | 8, _ => ul_X8_8
  | 9, _ => ul_X8_9
  | 10, _ => ul_X8_10
  | 11, _ => ul_X8_11
  | 12, _ => ul_X8_12
  | 13, _ => ul_X8_13
  | 14, _ => ul_X8_14
  | 15, _ => ul_X8_15
  | 16, _ => ul_X8_16
  | 17, _ => ul_X8_17
  | 18, _ => ul_X8_18
  | 19, _ => ul_X8_19
  | 20, _ => ul_X8_20
  | 21, _ => ul_X8_21
  | 22, _ => ul_X8_22
  | 23, _ => ul_X8_23
  | 24, _ => ul_X8_24
  | 25, _ => ul_X8_25
  | 26, _ => ul_X8_26
  | 27, _ => ul_X8_27
  | 28, _ => ul_X8_28
  | 29, _ => ul_X8_29
  | 30, _ => ul_X8_30
  | 31, _ => ul_X8_31
  | 32, _ => ul_X8_32
  | 33, _ => ul_X8_33
  | 34, _ => ul_X8_34
  | 35, _ => ul_X8_35
  | 36, _ => ul_X8_36
  | 37, _ => ul_X8_37
  | 38, _ => ul_X8_38
  | 39, _ => ul_X8_39
  | 40, _ => ul_X8_40
  | 41, _ => ul_X8_41
  | 42, _ => ul_X8_42
  | 43, _ => ul_X8_43
  | 44, _ => ul_X8_44
  | 45, _ => ul_X8_45
  | 46, _ => ul_X8_46
  | 47, _ => ul_X8_47
  | 48, _ => ul_X8_48
  | 49, _ => ul_X8_49
  | 50, _ => ul_X8_50
  | 51, _ => ul_X8_51
  | 52, _ => ul_X8_52
  | 53, _ => ul_X8_53
  | 54, _ => ul_X8_54
  | 55, _ => ul_X8_55
  | 56, _ => ul_X8_56
  | k + 57, hk => absurd hk (by omega))
theorem inM_8 {c : Cond} : ∀ w ∈ u_ws RX8 TX8 57, w ∈ c :: AW := fun w h => List.mem_cons_of_mem _ (inA_8 w h)
theorem mc {w c : Cond} {l : List Cond} (h : w ∈ l) : w ∈ c :: l := List.mem_cons_of_mem _ h
theorem mcs {c : Cond} {l : List Cond} : ∀ w ∈ l, w ∈ c :: l := fun _ h => List.mem_cons_of_mem _ h
def nwF : List (String × Nat × String × String × String × String) := [("IronCampaign$Column", 24, "IronCampaign$Table", "rows", "I", "IronCampaign"), ("IronCampaign$Sale", 57, "IronCampaign$Table", "rows", "I", "IronCampaign"), ("IronCampaign", 109, "IronCampaign$Table", "rows", "I", "IronCampaign"), ("IronCampaign$Furnace", 53, "IronCampaign$Column", "charges", "LIronCampaign$Table;", "IronCampaign"), ("IronCampaign", 98, "IronCampaign$Column", "charges", "LIronCampaign$Table;", "IronCampaign"), ("IronCampaign$Furnace", 57, "IronCampaign$Column", "lowest", "I", "IronCampaign"), ("IronCampaign", 119, "IronCampaign$Column", "lowest", "I", "IronCampaign"), ("IronCampaign", 153, "IronCampaign$Hearth", "iron", "I", "IronCampaign"), ("IronCampaign", 127, "IronCampaign$Hearth", "holds", "I", "IronCampaign"), ("IronCampaign", 177, "IronCampaign$Hearth", "made", "I", "IronCampaign"), ("IronCampaign", 174, "IronCampaign$Hearth", "spilled", "I", "IronCampaign"), ("IronCampaign", 236, "IronCampaign$Hearth", "firstCharge", "I", "IronCampaign"), ("IronCampaign", 239, "IronCampaign$Hearth", "lastCharge", "I", "IronCampaign"), ("IronCampaign", 233, "IronCampaign$Hearth", "leastSort", "I", "IronCampaign"), ("IronCampaign", 116, "IronCampaign$Furnace", "blast", "I", "IronCampaign"), ("IronCampaign", 147, "IronCampaign$Furnace", "heat", "I", "IronCampaign"), ("IronCampaign", 162, "IronCampaign$Furnace", "slag", "I", "IronCampaign"), ("IronCampaign", 150, "IronCampaign$Furnace", "slagOfTick", "I", "IronCampaign"), ("IronCampaign", 165, "IronCampaign$Furnace", "wear", "I", "IronCampaign"), ("IronCampaign", 130, "IronCampaign$Furnace", "life", "I", "IronCampaign"), ("IronCampaign", 137, "IronCampaign$Furnace", "ticks", "I", "IronCampaign"), ("IronCampaign", 168, "IronCampaign$Furnace", "burned", "I", "IronCampaign"), ("IronCampaign", 171, "IronCampaign$Furnace", "chills", "I", "IronCampaign"), ("IronCampaign", 133, "IronCampaign$Furnace", "out", "Z", "IronCampaign"), ("IronCampaign", 180, "IronCampaign$Signs", "seen", "[I", "IronCampaign"), ("IronCampaign", 183, "IronCampaign$Signs", "toLose", "[I", "IronCampaign"), ("IronCampaign", 205, "IronCampaign$Sale", "pigOf", "[I", "IronCampaign"), ("IronCampaign", 202, "IronCampaign$Sale", "weight", "[I", "IronCampaign"), ("IronCampaign", 199, "IronCampaign$Sale", "best", "[I", "IronCampaign"), ("IronCampaign", 196, "IronCampaign$Sale", "lots", "I", "IronCampaign"), ("IronCampaign", 193, "IronCampaign$Sale", "bestPay", "I", "IronCampaign"), ("IronCampaign", 218, "IronCampaign$Planner", "best", "[I", "IronCampaign"), ("IronCampaign", 215, "IronCampaign$Planner", "planned", "I", "IronCampaign")]
def nwM : List (String × Nat × MethodName × String) := [("IronCampaign", 18, ⟨"IronCampaign$Column", "<init>", "()V"⟩, "IronCampaign"), ("IronCampaign", 25, ⟨"IronCampaign$Hearth", "<init>", "()V"⟩, "IronCampaign"), ("IronCampaign", 32, ⟨"IronCampaign$Furnace", "<init>", "()V"⟩, "IronCampaign"), ("IronCampaign", 61, ⟨"IronCampaign$Sale", "<init>", "()V"⟩, "IronCampaign"), ("IronCampaign", 74, ⟨"IronCampaign$Planner", "<init>", "()V"⟩, "IronCampaign")]
def NM : Nm := (vwCl, nwF, nwM)
theorem nf_X0_24 : (RX0, 24, (TX6 3).1, (TX6 3).2.1, (TX6 3).2.2.1, "IronCampaign") ∈ NM.2.1 := List.mem_of_getElem? (i := 0) rfl
theorem nf_X4_57 : (RX4, 57, (TX6 3).1, (TX6 3).2.1, (TX6 3).2.2.1, "IronCampaign") ∈ NM.2.1 := List.mem_of_getElem? (i := 1) rfl
theorem nf_X7_109 : (RX7, 109, (TX6 3).1, (TX6 3).2.1, (TX6 3).2.2.1, "IronCampaign") ∈ NM.2.1 := List.mem_of_getElem? (i := 2) rfl
theorem nf_X1_53 : (RX1, 53, (TX0 0).1, (TX0 0).2.1, (TX0 0).2.2.1, "IronCampaign") ∈ NM.2.1 := List.mem_of_getElem? (i := 3) rfl
theorem nf_X7_98 : (RX7, 98, (TX0 0).1, (TX0 0).2.1, (TX0 0).2.2.1, "IronCampaign") ∈ NM.2.1 := List.mem_of_getElem? (i := 4) rfl
theorem nf_X1_57 : (RX1, 57, (TX0 1).1, (TX0 1).2.1, (TX0 1).2.2.1, "IronCampaign") ∈ NM.2.1 := List.mem_of_getElem? (i := 5) rfl
theorem nf_X7_119 : (RX7, 119, (TX0 1).1, (TX0 1).2.1, (TX0 1).2.2.1, "IronCampaign") ∈ NM.2.1 := List.mem_of_getElem? (i := 6) rfl
theorem nf_X7_153 : (RX7, 153, (TX2 0).1, (TX2 0).2.1, (TX2 0).2.2.1, "IronCampaign") ∈ NM.2.1 := List.mem_of_getElem? (i := 7) rfl
theorem nf_X7_127 : (RX7, 127, (TX2 1).1, (TX2 1).2.1, (TX2 1).2.2.1, "IronCampaign") ∈ NM.2.1 := List.mem_of_getElem? (i := 8) rfl
theorem nf_X7_177 : (RX7, 177, (TX2 2).1, (TX2 2).2.1, (TX2 2).2.2.1, "IronCampaign") ∈ NM.2.1 := List.mem_of_getElem? (i := 9) rfl
theorem nf_X7_174 : (RX7, 174, (TX2 3).1, (TX2 3).2.1, (TX2 3).2.2.1, "IronCampaign") ∈ NM.2.1 := List.mem_of_getElem? (i := 10) rfl
theorem nf_X7_236 : (RX7, 236, (TX2 4).1, (TX2 4).2.1, (TX2 4).2.2.1, "IronCampaign") ∈ NM.2.1 := List.mem_of_getElem? (i := 11) rfl
theorem nf_X7_239 : (RX7, 239, (TX2 5).1, (TX2 5).2.1, (TX2 5).2.2.1, "IronCampaign") ∈ NM.2.1 := List.mem_of_getElem? (i := 12) rfl
theorem nf_X7_233 : (RX7, 233, (TX2 6).1, (TX2 6).2.1, (TX2 6).2.2.1, "IronCampaign") ∈ NM.2.1 := List.mem_of_getElem? (i := 13) rfl
theorem nf_X7_116 : (RX7, 116, (TX1 0).1, (TX1 0).2.1, (TX1 0).2.2.1, "IronCampaign") ∈ NM.2.1 := List.mem_of_getElem? (i := 14) rfl
theorem nf_X7_147 : (RX7, 147, (TX1 1).1, (TX1 1).2.1, (TX1 1).2.2.1, "IronCampaign") ∈ NM.2.1 := List.mem_of_getElem? (i := 15) rfl
theorem nf_X7_162 : (RX7, 162, (TX1 2).1, (TX1 2).2.1, (TX1 2).2.2.1, "IronCampaign") ∈ NM.2.1 := List.mem_of_getElem? (i := 16) rfl
theorem nf_X7_150 : (RX7, 150, (TX1 3).1, (TX1 3).2.1, (TX1 3).2.2.1, "IronCampaign") ∈ NM.2.1 := List.mem_of_getElem? (i := 17) rfl
theorem nf_X7_165 : (RX7, 165, (TX1 4).1, (TX1 4).2.1, (TX1 4).2.2.1, "IronCampaign") ∈ NM.2.1 := List.mem_of_getElem? (i := 18) rfl
theorem nf_X7_130 : (RX7, 130, (TX1 5).1, (TX1 5).2.1, (TX1 5).2.2.1, "IronCampaign") ∈ NM.2.1 := List.mem_of_getElem? (i := 19) rfl
theorem nf_X7_137 : (RX7, 137, (TX1 6).1, (TX1 6).2.1, (TX1 6).2.2.1, "IronCampaign") ∈ NM.2.1 := List.mem_of_getElem? (i := 20) rfl
theorem nf_X7_168 : (RX7, 168, (TX1 7).1, (TX1 7).2.1, (TX1 7).2.2.1, "IronCampaign") ∈ NM.2.1 := List.mem_of_getElem? (i := 21) rfl
theorem nf_X7_171 : (RX7, 171, (TX1 8).1, (TX1 8).2.1, (TX1 8).2.2.1, "IronCampaign") ∈ NM.2.1 := List.mem_of_getElem? (i := 22) rfl
theorem nf_X7_133 : (RX7, 133, (TX1 9).1, (TX1 9).2.1, (TX1 9).2.2.1, "IronCampaign") ∈ NM.2.1 := List.mem_of_getElem? (i := 23) rfl
theorem nf_X7_180 : (RX7, 180, (TX5 0).1, (TX5 0).2.1, (TX5 0).2.2.1, "IronCampaign") ∈ NM.2.1 := List.mem_of_getElem? (i := 24) rfl
theorem nf_X7_183 : (RX7, 183, (TX5 1).1, (TX5 1).2.1, (TX5 1).2.2.1, "IronCampaign") ∈ NM.2.1 := List.mem_of_getElem? (i := 25) rfl
theorem nf_X7_205 : (RX7, 205, (TX4 0).1, (TX4 0).2.1, (TX4 0).2.2.1, "IronCampaign") ∈ NM.2.1 := List.mem_of_getElem? (i := 26) rfl
theorem nf_X7_202 : (RX7, 202, (TX4 1).1, (TX4 1).2.1, (TX4 1).2.2.1, "IronCampaign") ∈ NM.2.1 := List.mem_of_getElem? (i := 27) rfl
theorem nf_X7_199 : (RX7, 199, (TX4 4).1, (TX4 4).2.1, (TX4 4).2.2.1, "IronCampaign") ∈ NM.2.1 := List.mem_of_getElem? (i := 28) rfl
theorem nf_X7_196 : (RX7, 196, (TX4 7).1, (TX4 7).2.1, (TX4 7).2.2.1, "IronCampaign") ∈ NM.2.1 := List.mem_of_getElem? (i := 29) rfl
theorem nf_X7_193 : (RX7, 193, (TX4 8).1, (TX4 8).2.1, (TX4 8).2.2.1, "IronCampaign") ∈ NM.2.1 := List.mem_of_getElem? (i := 30) rfl
theorem nf_X7_218 : (RX7, 218, (TX3 5).1, (TX3 5).2.1, (TX3 5).2.2.1, "IronCampaign") ∈ NM.2.1 := List.mem_of_getElem? (i := 31) rfl
theorem nf_X7_215 : (RX7, 215, (TX3 8).1, (TX3 8).2.1, (TX3 8).2.2.1, "IronCampaign") ∈ NM.2.1 := List.mem_of_getElem? (i := 32) rfl
theorem nm_X7_18 : (RX7, 18, yX0_init, "IronCampaign") ∈ NM.2.2 := List.mem_of_getElem? (i := 0) rfl
theorem nm_X7_25 : (RX7, 25, yX2_init, "IronCampaign") ∈ NM.2.2 := List.mem_of_getElem? (i := 1) rfl
theorem nm_X7_32 : (RX7, 32, yX1_init, "IronCampaign") ∈ NM.2.2 := List.mem_of_getElem? (i := 2) rfl
theorem nm_X7_61 : (RX7, 61, yX4_init, "IronCampaign") ∈ NM.2.2 := List.mem_of_getElem? (i := 3) rfl
theorem nm_X7_74 : (RX7, 74, yX3_init, "IronCampaign") ∈ NM.2.2 := List.mem_of_getElem? (i := 4) rfl
theorem nc_0 : NM.1[0]? = some (RX0, TX0, 2) := rfl
theorem nc_1 : NM.1[1]? = some (RX1, TX1, 10) := rfl
theorem nc_2 : NM.1[2]? = some (RX2, TX2, 7) := rfl
theorem nc_3 : NM.1[3]? = some (RX3, TX3, 9) := rfl
theorem nc_4 : NM.1[4]? = some (RX4, TX4, 9) := rfl
theorem nc_5 : NM.1[5]? = some (RX5, TX5, 2) := rfl
theorem nc_6 : NM.1[6]? = some (RX6, TX6, 4) := rfl
theorem nc_7 : NM.1[7]? = some (RX7, TX7, 15) := rfl
theorem nc_8 : NM.1[8]? = some (RX8, TX8, 57) := rfl
def SH : List Shp := [.inl (7, [some 2, some 3, some 4, some 7, some 8, some 9, some 11, some 14, some 16, some 18, some 26, some 28, some 30, none, none]),
  .inr (0, 6),
  .inr (0, 4),
  .inl (0, [some 5, none]),
  .inl (6, [some 6, none, none, none]),
  .inr (0, 2800),
  .inl (2, [none, none, none, none, none, none, none]),
  .inl (1, [none, none, none, none, none, none, none, none, none, none]),
  .inl (6, [some 10, none, none, none]),
  .inr (0, 360),
  .inl (5, [some 12, some 13]),
  .inr (0, 3),
  .inr (0, 3),
  .inl (6, [some 15, none, none, none]),
  .inr (0, 32),
  .inl (6, [some 17, none, none, none]),
  .inr (0, 9),
  .inl (4, [some 19, some 20, some 21, some 22, some 23, some 24, some 25, none, none]),
  .inr (0, 8),
  .inr (0, 8),
  .inr (0, 8),
  .inr (0, 8),
  .inr (0, 8),
  .inr (0, 9),
  .inr (0, 3),
  .inl (6, [some 27, none, none, none]),
  .inr (0, 24),
  .inl (6, [some 29, none, none, none]),
  .inr (0, 15),
  .inl (3, [some 31, some 32, some 33, some 34, some 35, some 36, none, none, none]),
  .inr (0, 6),
  .inr (0, 6),
  .inr (0, 7),
  .inr (0, 6),
  .inr (0, 6),
  .inr (0, 6),
  .inl (8, [some 38, some 39, none, none, some 40, some 41, some 42, some 43, some 44, some 45, some 46, none, none, none, none, none, none, none, none, none, none, none, none, none, none, none, none, none, some 47, some 48, some 49, some 50, some 51, some 52, some 53, some 54, none, some 55, some 56, some 57, some 58, none, some 59, some 60, some 61, none, some 62, some 63, some 64, some 65, some 66, some 67, none, some 68, none, none, some 69]),
  .inr (0, 6),
  .inr (0, 4),
  .inr (0, 400),
  .inr (0, 400),
  .inr (0, 400),
  .inr (0, 400),
  .inr (0, 400),
  .inr (0, 400),
  .inr (0, 400),
  .inr (0, 60),
  .inr (0, 60),
  .inr (0, 60),
  .inr (0, 60),
  .inr (0, 60),
  .inr (0, 60),
  .inr (0, 3),
  .inr (0, 3),
  .inr (0, 8),
  .inr (1, 8),
  .inr (0, 8),
  .inr (0, 8),
  .inr (0, 3),
  .inr (0, 3),
  .inr (0, 3),
  .inr (0, 12),
  .inr (0, 12),
  .inr (0, 5),
  .inr (0, 5),
  .inr (0, 5),
  .inr (0, 6),
  .inr (0, 8),
  .inr (0, 3)]
theorem sh_0 : SH[0]? = some (.inl (7, [some 2, some 3, some 4, some 7, some 8, some 9, some 11, some 14, some 16, some 18, some 26, some 28, some 30, none, none])) := rfl
theorem sh_1 : SH[1]? = some (.inr (0, 6)) := rfl
theorem sh_2 : SH[2]? = some (.inr (0, 4)) := rfl
theorem sh_3 : SH[3]? = some (.inl (0, [some 5, none])) := rfl
theorem sh_4 : SH[4]? = some (.inl (6, [some 6, none, none, none])) := rfl
theorem sh_5 : SH[5]? = some (.inr (0, 2800)) := rfl
theorem sh_6 : SH[6]? = some (.inl (2, [none, none, none, none, none, none, none])) := rfl
theorem sh_7 : SH[7]? = some (.inl (1, [none, none, none, none, none, none, none, none, none, none])) := rfl
theorem sh_8 : SH[8]? = some (.inl (6, [some 10, none, none, none])) := rfl
theorem sh_9 : SH[9]? = some (.inr (0, 360)) := rfl
theorem sh_10 : SH[10]? = some (.inl (5, [some 12, some 13])) := rfl
theorem sh_11 : SH[11]? = some (.inr (0, 3)) := rfl
theorem sh_12 : SH[12]? = some (.inr (0, 3)) := rfl
theorem sh_13 : SH[13]? = some (.inl (6, [some 15, none, none, none])) := rfl
theorem sh_14 : SH[14]? = some (.inr (0, 32)) := rfl
theorem sh_15 : SH[15]? = some (.inl (6, [some 17, none, none, none])) := rfl
theorem sh_16 : SH[16]? = some (.inr (0, 9)) := rfl
theorem sh_17 : SH[17]? = some (.inl (4, [some 19, some 20, some 21, some 22, some 23, some 24, some 25, none, none])) := rfl
theorem sh_18 : SH[18]? = some (.inr (0, 8)) := rfl
theorem sh_19 : SH[19]? = some (.inr (0, 8)) := rfl
theorem sh_20 : SH[20]? = some (.inr (0, 8)) := rfl
theorem sh_21 : SH[21]? = some (.inr (0, 8)) := rfl
theorem sh_22 : SH[22]? = some (.inr (0, 8)) := rfl
theorem sh_23 : SH[23]? = some (.inr (0, 9)) := rfl
theorem sh_24 : SH[24]? = some (.inr (0, 3)) := rfl
theorem sh_25 : SH[25]? = some (.inl (6, [some 27, none, none, none])) := rfl
theorem sh_26 : SH[26]? = some (.inr (0, 24)) := rfl
theorem sh_27 : SH[27]? = some (.inl (6, [some 29, none, none, none])) := rfl
theorem sh_28 : SH[28]? = some (.inr (0, 15)) := rfl
theorem sh_29 : SH[29]? = some (.inl (3, [some 31, some 32, some 33, some 34, some 35, some 36, none, none, none])) := rfl
theorem sh_30 : SH[30]? = some (.inr (0, 6)) := rfl
theorem sh_31 : SH[31]? = some (.inr (0, 6)) := rfl
theorem sh_32 : SH[32]? = some (.inr (0, 7)) := rfl
theorem sh_33 : SH[33]? = some (.inr (0, 6)) := rfl
theorem sh_34 : SH[34]? = some (.inr (0, 6)) := rfl
theorem sh_35 : SH[35]? = some (.inr (0, 6)) := rfl
theorem sh_36 : SH[36]? = some (.inl (8, [some 38, some 39, none, none, some 40, some 41, some 42, some 43, some 44, some 45, some 46, none, none, none, none, none, none, none, none, none, none, none, none, none, none, none, none, none, some 47, some 48, some 49, some 50, some 51, some 52, some 53, some 54, none, some 55, some 56, some 57, some 58, none, some 59, some 60, some 61, none, some 62, some 63, some 64, some 65, some 66, some 67, none, some 68, none, none, some 69])) := rfl
theorem sh_37 : SH[37]? = some (.inr (0, 6)) := rfl
theorem sh_38 : SH[38]? = some (.inr (0, 4)) := rfl
theorem sh_39 : SH[39]? = some (.inr (0, 400)) := rfl
theorem sh_40 : SH[40]? = some (.inr (0, 400)) := rfl
theorem sh_41 : SH[41]? = some (.inr (0, 400)) := rfl
theorem sh_42 : SH[42]? = some (.inr (0, 400)) := rfl
theorem sh_43 : SH[43]? = some (.inr (0, 400)) := rfl
theorem sh_44 : SH[44]? = some (.inr (0, 400)) := rfl
theorem sh_45 : SH[45]? = some (.inr (0, 400)) := rfl
theorem sh_46 : SH[46]? = some (.inr (0, 60)) := rfl
theorem sh_47 : SH[47]? = some (.inr (0, 60)) := rfl
theorem sh_48 : SH[48]? = some (.inr (0, 60)) := rfl
theorem sh_49 : SH[49]? = some (.inr (0, 60)) := rfl
theorem sh_50 : SH[50]? = some (.inr (0, 60)) := rfl
theorem sh_51 : SH[51]? = some (.inr (0, 60)) := rfl
theorem sh_52 : SH[52]? = some (.inr (0, 3)) := rfl
theorem sh_53 : SH[53]? = some (.inr (0, 3)) := rfl
theorem sh_54 : SH[54]? = some (.inr (0, 8)) := rfl
theorem sh_55 : SH[55]? = some (.inr (1, 8)) := rfl
theorem sh_56 : SH[56]? = some (.inr (0, 8)) := rfl
theorem sh_57 : SH[57]? = some (.inr (0, 8)) := rfl
theorem sh_58 : SH[58]? = some (.inr (0, 3)) := rfl
theorem sh_59 : SH[59]? = some (.inr (0, 3)) := rfl
theorem sh_60 : SH[60]? = some (.inr (0, 3)) := rfl
theorem sh_61 : SH[61]? = some (.inr (0, 12)) := rfl
theorem sh_62 : SH[62]? = some (.inr (0, 12)) := rfl
theorem sh_63 : SH[63]? = some (.inr (0, 5)) := rfl
theorem sh_64 : SH[64]? = some (.inr (0, 5)) := rfl
theorem sh_65 : SH[65]? = some (.inr (0, 5)) := rfl
theorem sh_66 : SH[66]? = some (.inr (0, 6)) := rfl
theorem sh_67 : SH[67]? = some (.inr (0, 8)) := rfl
theorem sh_68 : SH[68]? = some (.inr (0, 3)) := rfl
def rmR (d : Nat) : Room := { frames := 10 + d, cells := 0, slots := 0, locals := 200 + 40 * d }
theorem lk_X0_11 : LkI AW RX0 11 yX6_init cX6_init 3 2 := ⟨⟨wd_137, wd_139, wd_138, by decide, by decide, by decide⟩, wd_140, rfl⟩
theorem lk_X0_27 : LkV AW RX0 27 yX6_add cX6_add 1 (some .int) 0 := ⟨⟨wd_141, wd_142, wd_138, by decide, by decide, by decide⟩, wd_143, wd_144⟩
theorem lk_X0_31 : LkV AW RX0 31 yX6_set cX6_set 4 none 3 := ⟨⟨wd_145, wd_146, wd_138, by decide, by decide, by decide⟩, wd_147, wd_148⟩
theorem lk_X0_35 : LkV AW RX0 35 yX6_get cX6_get 3 (some .int) 2 := ⟨⟨wd_149, wd_150, wd_138, by decide, by decide, by decide⟩, wd_151, wd_152⟩
theorem lk_X1_43 : LkV AW RX1 43 yX0_burn cX0_burn 6 (some .int) 1 := ⟨⟨wd_153, wd_155, wd_154, by decide, by decide, by decide⟩, wd_156, wd_157⟩
theorem lk_X1_49 : LkV AW RX1 49 yX0_lowestIsBurned cX0_lowestIsBurned 1 (some .boolean) 0 := ⟨⟨wd_158, wd_159, wd_154, by decide, by decide, by decide⟩, wd_160, wd_161⟩
theorem lk_X1_60 : LkV AW RX1 60 yX1_bringDown cX1_bringDown 10 none 4 := ⟨⟨wd_162, wd_164, wd_163, by decide, by decide, by decide⟩, wd_165, wd_166⟩
theorem lk_X1_73 : LkV AW RX1 73 yX2_spill cX2_spill 2 (some .int) 0 := ⟨⟨wd_167, wd_169, wd_168, by decide, by decide, by decide⟩, wd_170, wd_171⟩
theorem lk_X1_79 : LkV AW RX1 79 yX6_get cX6_get 3 (some .int) 2 := ⟨⟨wd_149, wd_172, wd_138, by decide, by decide, by decide⟩, wd_151, wd_152⟩
theorem lk_X1_84 : LkV AW RX1 84 yX6_set cX6_set 4 none 3 := ⟨⟨wd_145, wd_173, wd_138, by decide, by decide, by decide⟩, wd_147, wd_148⟩
theorem lk_X1_88 : LkV AW RX1 88 yX1_sortOf cX1_sortOf 4 (some .int) 2 := ⟨⟨wd_174, wd_175, wd_163, by decide, by decide, by decide⟩, wd_176, wd_177⟩
theorem lk_X1_91 : LkV AW RX1 91 yX2_pour cX2_pour 4 none 3 := ⟨⟨wd_178, wd_179, wd_168, by decide, by decide, by decide⟩, wd_180, wd_181⟩
theorem lk_X3_49 : LkV AW RX3 49 yX6_get cX6_get 3 (some .int) 2 := ⟨⟨wd_149, wd_182, wd_138, by decide, by decide, by decide⟩, wd_151, wd_152⟩
theorem lk_X3_54 : LkS AW RX3 54 yX3_goOn cX3_goOn 10 none 6 := ⟨⟨wd_183, wd_185, wd_184, by decide, by decide, by decide⟩, wd_186⟩
theorem lk_X4_40 : LkV AW RX4 40 yX4_readPigs cX4_readPigs 3 none 1 := ⟨⟨wd_187, wd_189, wd_188, by decide, by decide, by decide⟩, wd_190, wd_191⟩
theorem lk_X4_44 : LkV AW RX4 44 yX6_get cX6_get 3 (some .int) 2 := ⟨⟨wd_149, wd_192, wd_138, by decide, by decide, by decide⟩, wd_151, wd_152⟩
theorem lk_X4_50 : LkV AW RX4 50 yX4_readHopes cX4_readHopes 5 none 1 := ⟨⟨wd_193, wd_194, wd_188, by decide, by decide, by decide⟩, wd_195, wd_196⟩
theorem lk_X4_53 : LkS AW RX4 53 yX4_place cX4_place 6 none 4 := ⟨⟨wd_197, wd_198, wd_188, by decide, by decide, by decide⟩, wd_199⟩
theorem lk_X4_60 : LkV AW RX4 60 yX4_canTake cX4_canTake 5 (some .boolean) 3 := ⟨⟨wd_200, wd_201, wd_188, by decide, by decide, by decide⟩, wd_202, wd_203⟩
theorem lk_X6_31 : LkV AW RX6 31 yX6_isFull cX6_isFull 1 (some .boolean) 0 := ⟨⟨wd_204, wd_205, wd_138, by decide, by decide, by decide⟩, wd_206, wd_207⟩
theorem lk_X6_35 : LkV AW RX6 35 yX6_has cX6_has 3 (some .boolean) 2 := ⟨⟨wd_208, wd_209, wd_138, by decide, by decide, by decide⟩, wd_210, wd_211⟩
theorem lk_X7_18 : LkN NM AW RX7 18 yX0_init "IronCampaign" cX0_init 1 0 := ⟨⟨wd_212, nm_X7_18, wd_154, by decide, by decide, by decide⟩, wd_213, rfl⟩
theorem lk_X7_25 : LkN NM AW RX7 25 yX2_init "IronCampaign" cX2_init 1 0 := ⟨⟨wd_214, nm_X7_25, wd_168, by decide, by decide, by decide⟩, wd_215, rfl⟩
theorem lk_X7_32 : LkN NM AW RX7 32 yX1_init "IronCampaign" cX1_init 1 0 := ⟨⟨wd_216, nm_X7_32, wd_163, by decide, by decide, by decide⟩, wd_217, rfl⟩
theorem lk_X7_39 : LkI AW RX7 39 yX6_init cX6_init 3 2 := ⟨⟨wd_137, wd_218, wd_138, by decide, by decide, by decide⟩, wd_140, rfl⟩
theorem lk_X7_48 : LkI AW RX7 48 yX5_init cX5_init 2 0 := ⟨⟨wd_219, wd_221, wd_220, by decide, by decide, by decide⟩, wd_222, rfl⟩
theorem lk_X7_61 : LkN NM AW RX7 61 yX4_init "IronCampaign" cX4_init 1 0 := ⟨⟨wd_223, nm_X7_61, wd_188, by decide, by decide, by decide⟩, wd_224, rfl⟩
theorem lk_X7_74 : LkN NM AW RX7 74 yX3_init "IronCampaign" cX3_init 1 0 := ⟨⟨wd_225, nm_X7_74, wd_184, by decide, by decide, by decide⟩, wd_226, rfl⟩
theorem lk_X7_86 : LkV AW RX7 86 yX6_set cX6_set 4 none 3 := ⟨⟨wd_145, wd_227, wd_138, by decide, by decide, by decide⟩, wd_147, wd_148⟩
theorem lk_X7_90 : LkS AW RX7 90 yX7_within cX7_within 3 (some .boolean) 3 := ⟨⟨wd_228, wd_230, wd_229, by decide, by decide, by decide⟩, wd_231⟩
theorem lk_X7_94 : LkV AW RX7 94 yX0_size cX0_size 1 (some .int) 0 := ⟨⟨wd_232, wd_233, wd_154, by decide, by decide, by decide⟩, wd_234, wd_235⟩
theorem lk_X7_101 : LkV AW RX7 101 yX6_isFull cX6_isFull 1 (some .boolean) 0 := ⟨⟨wd_204, wd_236, wd_138, by decide, by decide, by decide⟩, wd_206, wd_207⟩
theorem lk_X7_105 : LkV AW RX7 105 yX0_lay cX0_lay 6 (some .int) 4 := ⟨⟨wd_237, wd_238, wd_154, by decide, by decide, by decide⟩, wd_239, wd_240⟩
theorem lk_X7_112 : LkV AW RX7 112 yX6_get cX6_get 3 (some .int) 2 := ⟨⟨wd_149, wd_241, wd_138, by decide, by decide, by decide⟩, wd_151, wd_152⟩
theorem lk_X7_122 : LkV AW RX7 122 yX0_coalDownFrom cX0_coalDownFrom 4 (some .int) 1 := ⟨⟨wd_242, wd_243, wd_154, by decide, by decide, by decide⟩, wd_244, wd_245⟩
theorem lk_X7_140 : LkV AW RX7 140 yX7_followRules cX7_followRules 3 none 0 := ⟨⟨wd_246, wd_247, wd_229, by decide, by decide, by decide⟩, wd_248, wd_249⟩
theorem lk_X7_143 : LkV AW RX7 143 yX1_blow cX1_blow 6 none 3 := ⟨⟨wd_250, wd_251, wd_163, by decide, by decide, by decide⟩, wd_252, wd_253⟩
theorem lk_X7_156 : LkV AW RX7 156 yX5_look cX5_look 5 none 3 := ⟨⟨wd_254, wd_255, wd_220, by decide, by decide, by decide⟩, wd_256, wd_257⟩
theorem lk_X7_159 : LkV AW RX7 159 yX7_castPig cX7_castPig 2 (some .int) 0 := ⟨⟨wd_258, wd_259, wd_229, by decide, by decide, by decide⟩, wd_260, wd_261⟩
theorem lk_X7_186 : LkV AW RX7 186 yX6_add cX6_add 1 (some .int) 0 := ⟨⟨wd_141, wd_262, wd_138, by decide, by decide, by decide⟩, wd_143, wd_144⟩
theorem lk_X7_189 : LkV AW RX7 189 yX4_settle cX4_settle 4 none 2 := ⟨⟨wd_263, wd_264, wd_188, by decide, by decide, by decide⟩, wd_265, wd_266⟩
theorem lk_X7_208 : LkV AW RX7 208 yX3_readMonths cX3_readMonths 9 none 4 := ⟨⟨wd_267, wd_268, wd_184, by decide, by decide, by decide⟩, wd_269, wd_270⟩
theorem lk_X7_212 : LkV AW RX7 212 yX3_settle cX3_settle 5 (some .int) 3 := ⟨⟨wd_271, wd_272, wd_184, by decide, by decide, by decide⟩, wd_273, wd_274⟩
theorem lk_X7_223 : LkV AW RX7 223 yX7_count cX7_count 2 (some .int) 1 := ⟨⟨wd_275, wd_276, wd_229, by decide, by decide, by decide⟩, wd_277, wd_278⟩
theorem lk_X7_226 : LkV AW RX7 226 yX7_about cX7_about 2 (some .int) 1 := ⟨⟨wd_279, wd_280, wd_229, by decide, by decide, by decide⟩, wd_281, wd_282⟩
theorem lk_X7_229 : LkV AW RX7 229 yX6_mixInto cX6_mixInto 5 (some .long) 1 := ⟨⟨wd_283, wd_284, wd_138, by decide, by decide, by decide⟩, wd_285, wd_286⟩
theorem lk_X7_242 : LkV AW RX7 242 yX2_empty cX2_empty 1 none 0 := ⟨⟨wd_287, wd_288, wd_168, by decide, by decide, by decide⟩, wd_289, wd_290⟩
theorem lk_X7_245 : LkV AW RX7 245 yX7_isCalledFor cX7_isCalledFor 5 (some .boolean) 1 := ⟨⟨wd_291, wd_292, wd_229, by decide, by decide, by decide⟩, wd_293, wd_294⟩
theorem lk_X8_123 : LkS AW RX8 123 yX8_in cX8_in 3 (some .boolean) 3 := ⟨⟨wd_295, wd_297, wd_296, by decide, by decide, by decide⟩, wd_298⟩
theorem lk_X8_137 : LkV AW RX8 137 yX8_tap cX8_tap 1 (some .int) 0 := ⟨⟨wd_299, wd_300, wd_296, by decide, by decide, by decide⟩, wd_301, wd_302⟩
theorem lk_X8_159 : LkV AW RX8 159 yX8_act cX8_act 3 none 1 := ⟨⟨wd_303, wd_304, wd_296, by decide, by decide, by decide⟩, wd_305, wd_306⟩
theorem lk_X8_166 : LkV AW RX8 166 yX8_comesDown cX8_comesDown 2 none 0 := ⟨⟨wd_307, wd_308, wd_296, by decide, by decide, by decide⟩, wd_309, wd_310⟩
theorem lk_X8_182 : LkV AW RX8 182 yX8_see cX8_see 3 none 2 := ⟨⟨wd_311, wd_312, wd_296, by decide, by decide, by decide⟩, wd_313, wd_314⟩
theorem lk_X8_186 : LkV AW RX8 186 yX8_oneTick cX8_oneTick 5 none 0 := ⟨⟨wd_315, wd_316, wd_296, by decide, by decide, by decide⟩, wd_317, wd_318⟩
theorem lk_X8_198 : LkV AW RX8 198 yX8_digit cX8_digit 5 (some .int) 2 := ⟨⟨wd_319, wd_320, wd_296, by decide, by decide, by decide⟩, wd_321, wd_322⟩
theorem lk_X8_202 : LkV AW RX8 202 yX8_payOf cX8_payOf 6 (some .int) 1 := ⟨⟨wd_323, wd_324, wd_296, by decide, by decide, by decide⟩, wd_325, wd_326⟩
theorem lk_X8_209 : LkV AW RX8 209 yX8_findSale cX8_findSale 5 (some .int) 0 := ⟨⟨wd_327, wd_328, wd_296, by decide, by decide, by decide⟩, wd_329, wd_330⟩
theorem lk_X8_215 : LkV AW RX8 215 yX8_ironOf cX8_ironOf 14 (some .int) 6 := ⟨⟨wd_331, wd_332, wd_296, by decide, by decide, by decide⟩, wd_333, wd_334⟩
theorem lk_X8_226 : LkV AW RX8 226 yX8_count cX8_count 4 (some .int) 1 := ⟨⟨wd_335, wd_336, wd_296, by decide, by decide, by decide⟩, wd_337, wd_338⟩
theorem lk_X8_229 : LkV AW RX8 229 yX8_about cX8_about 2 (some .int) 1 := ⟨⟨wd_339, wd_340, wd_296, by decide, by decide, by decide⟩, wd_341, wd_342⟩
theorem lk_X8_232 : LkV AW RX8 232 yX8_chargeAt cX8_chargeAt 3 (some .int) 2 := ⟨⟨wd_343, wd_344, wd_296, by decide, by decide, by decide⟩, wd_345, wd_346⟩
theorem lk_X8_235 : LkV AW RX8 235 yX8_pig cX8_pig 3 (some .int) 2 := ⟨⟨wd_347, wd_348, wd_296, by decide, by decide, by decide⟩, wd_349, wd_350⟩
theorem lk_L_9 : LkI AW RL 9 yX7_init cX7_init 2 0 := ⟨⟨wd_351, wd_352, wd_229, by decide, by decide, by decide⟩, wd_353, rfl⟩
theorem lk_L_12 : LkI AW RL 12 yX8_init cX8_init 2 0 := ⟨⟨wd_354, wd_355, wd_296, by decide, by decide, by decide⟩, wd_356, rfl⟩
theorem lk_L_13 : LkV AW RL 13 yX7_buy cX7_buy 3 (some .int) 2 := ⟨⟨wd_357, wd_358, wd_229, by decide, by decide, by decide⟩, wd_359, wd_360⟩
theorem lk_L_17 : LkV AW RL 17 yX8_buy cX8_buy 3 (some .int) 2 := ⟨⟨wd_361, wd_362, wd_296, by decide, by decide, by decide⟩, wd_363, wd_364⟩
theorem lk_L_18 : LkV AW RL 18 yX7_rich cX7_rich 4 (some .int) 2 := ⟨⟨wd_365, wd_366, wd_229, by decide, by decide, by decide⟩, wd_367, wd_368⟩
theorem lk_L_21 : LkV AW RL 21 yX8_rich cX8_rich 4 (some .int) 2 := ⟨⟨wd_369, wd_370, wd_296, by decide, by decide, by decide⟩, wd_371, wd_372⟩
theorem lk_L_22 : LkV AW RL 22 yX7_charge cX7_charge 6 (some .int) 4 := ⟨⟨wd_373, wd_374, wd_229, by decide, by decide, by decide⟩, wd_375, wd_376⟩
theorem lk_L_26 : LkV AW RL 26 yX8_charge cX8_charge 5 (some .int) 4 := ⟨⟨wd_377, wd_378, wd_296, by decide, by decide, by decide⟩, wd_379, wd_380⟩
theorem lk_L_27 : LkV AW RL 27 yX7_chargeAt cX7_chargeAt 3 (some .int) 2 := ⟨⟨wd_381, wd_382, wd_229, by decide, by decide, by decide⟩, wd_383, wd_384⟩
theorem lk_L_30 : LkV AW RL 30 yX8_chargeAt cX8_chargeAt 3 (some .int) 2 := ⟨⟨wd_343, wd_385, wd_296, by decide, by decide, by decide⟩, wd_345, wd_346⟩
theorem lk_L_31 : LkV AW RL 31 yX7_when cX7_when 3 (some .int) 1 := ⟨⟨wd_386, wd_387, wd_229, by decide, by decide, by decide⟩, wd_388, wd_389⟩
theorem lk_L_35 : LkV AW RL 35 yX8_when cX8_when 4 (some .int) 1 := ⟨⟨wd_390, wd_391, wd_296, by decide, by decide, by decide⟩, wd_392, wd_393⟩
theorem lk_L_36 : LkV AW RL 36 yX7_blast cX7_blast 3 (some .int) 1 := ⟨⟨wd_394, wd_395, wd_229, by decide, by decide, by decide⟩, wd_396, wd_397⟩
theorem lk_L_39 : LkV AW RL 39 yX8_blast cX8_blast 3 (some .int) 1 := ⟨⟨wd_398, wd_399, wd_296, by decide, by decide, by decide⟩, wd_400, wd_401⟩
theorem lk_L_40 : LkV AW RL 40 yX7_hearth cX7_hearth 3 (some .int) 2 := ⟨⟨wd_402, wd_403, wd_229, by decide, by decide, by decide⟩, wd_404, wd_405⟩
theorem lk_L_43 : LkV AW RL 43 yX8_hearth cX8_hearth 3 (some .int) 2 := ⟨⟨wd_406, wd_407, wd_296, by decide, by decide, by decide⟩, wd_408, wd_409⟩
theorem lk_L_44 : LkV AW RL 44 yX7_tick cX7_tick 4 (some .int) 1 := ⟨⟨wd_410, wd_411, wd_229, by decide, by decide, by decide⟩, wd_412, wd_413⟩
theorem lk_L_47 : LkV AW RL 47 yX8_tick cX8_tick 3 (some .int) 1 := ⟨⟨wd_414, wd_415, wd_296, by decide, by decide, by decide⟩, wd_416, wd_417⟩
theorem lk_L_48 : LkV AW RL 48 yX7_tap cX7_tap 1 (some .int) 0 := ⟨⟨wd_418, wd_419, wd_229, by decide, by decide, by decide⟩, wd_420, wd_421⟩
theorem lk_L_52 : LkV AW RL 52 yX8_tap cX8_tap 1 (some .int) 0 := ⟨⟨wd_299, wd_422, wd_296, by decide, by decide, by decide⟩, wd_301, wd_302⟩
theorem lk_L_53 : LkV AW RL 53 yX7_about cX7_about 2 (some .int) 1 := ⟨⟨wd_279, wd_423, wd_229, by decide, by decide, by decide⟩, wd_281, wd_282⟩
theorem lk_L_56 : LkV AW RL 56 yX8_about cX8_about 2 (some .int) 1 := ⟨⟨wd_339, wd_424, wd_296, by decide, by decide, by decide⟩, wd_341, wd_342⟩
theorem lk_L_57 : LkV AW RL 57 yX7_store cX7_store 2 (some .int) 1 := ⟨⟨wd_425, wd_426, wd_229, by decide, by decide, by decide⟩, wd_427, wd_428⟩
theorem lk_L_60 : LkV AW RL 60 yX8_store cX8_store 2 (some .int) 1 := ⟨⟨wd_429, wd_430, wd_296, by decide, by decide, by decide⟩, wd_431, wd_432⟩
theorem lk_L_61 : LkV AW RL 61 yX7_pig cX7_pig 3 (some .int) 2 := ⟨⟨wd_433, wd_434, wd_229, by decide, by decide, by decide⟩, wd_435, wd_436⟩
theorem lk_L_64 : LkV AW RL 64 yX8_pig cX8_pig 3 (some .int) 2 := ⟨⟨wd_347, wd_437, wd_296, by decide, by decide, by decide⟩, wd_349, wd_350⟩
theorem lk_L_65 : LkV AW RL 65 yX7_sign cX7_sign 2 (some .int) 1 := ⟨⟨wd_438, wd_439, wd_229, by decide, by decide, by decide⟩, wd_440, wd_441⟩
theorem lk_L_68 : LkV AW RL 68 yX8_sign cX8_sign 2 (some .int) 1 := ⟨⟨wd_442, wd_443, wd_296, by decide, by decide, by decide⟩, wd_444, wd_445⟩
theorem lk_L_69 : LkV AW RL 69 yX7_lose cX7_lose 3 (some .int) 2 := ⟨⟨wd_446, wd_447, wd_229, by decide, by decide, by decide⟩, wd_448, wd_449⟩
theorem lk_L_72 : LkV AW RL 72 yX8_lose cX8_lose 3 (some .int) 2 := ⟨⟨wd_450, wd_451, wd_296, by decide, by decide, by decide⟩, wd_452, wd_453⟩
theorem lk_L_73 : LkV AW RL 73 yX7_rule cX7_rule 6 (some .int) 4 := ⟨⟨wd_454, wd_455, wd_229, by decide, by decide, by decide⟩, wd_456, wd_457⟩
theorem lk_L_77 : LkV AW RL 77 yX8_rule cX8_rule 5 (some .int) 4 := ⟨⟨wd_458, wd_459, wd_296, by decide, by decide, by decide⟩, wd_460, wd_461⟩
theorem lk_L_78 : LkV AW RL 78 yX7_unrule cX7_unrule 2 (some .int) 0 := ⟨⟨wd_462, wd_463, wd_229, by decide, by decide, by decide⟩, wd_464, wd_465⟩
theorem lk_L_81 : LkV AW RL 81 yX8_unrule cX8_unrule 2 (some .int) 0 := ⟨⟨wd_466, wd_467, wd_296, by decide, by decide, by decide⟩, wd_468, wd_469⟩
theorem lk_L_82 : LkV AW RL 82 yX7_forge cX7_forge 5 (some .int) 3 := ⟨⟨wd_470, wd_471, wd_229, by decide, by decide, by decide⟩, wd_472, wd_473⟩
theorem lk_L_86 : LkV AW RL 86 yX8_forge cX8_forge 4 (some .int) 3 := ⟨⟨wd_474, wd_475, wd_296, by decide, by decide, by decide⟩, wd_476, wd_477⟩
theorem lk_L_87 : LkV AW RL 87 yX7_sale cX7_sale 1 (some .int) 0 := ⟨⟨wd_478, wd_479, wd_229, by decide, by decide, by decide⟩, wd_480, wd_481⟩
theorem lk_L_90 : LkV AW RL 90 yX8_sale cX8_sale 1 (some .int) 0 := ⟨⟨wd_482, wd_483, wd_296, by decide, by decide, by decide⟩, wd_484, wd_485⟩
theorem lk_L_91 : LkV AW RL 91 yX7_sell cX7_sell 5 (some .int) 0 := ⟨⟨wd_486, wd_487, wd_229, by decide, by decide, by decide⟩, wd_488, wd_489⟩
theorem lk_L_94 : LkV AW RL 94 yX8_sell cX8_sell 5 (some .int) 0 := ⟨⟨wd_490, wd_491, wd_296, by decide, by decide, by decide⟩, wd_492, wd_493⟩
theorem lk_L_95 : LkV AW RL 95 yX7_month cX7_month 4 (some .int) 3 := ⟨⟨wd_494, wd_495, wd_229, by decide, by decide, by decide⟩, wd_496, wd_497⟩
theorem lk_L_98 : LkV AW RL 98 yX8_month cX8_month 4 (some .int) 3 := ⟨⟨wd_498, wd_499, wd_296, by decide, by decide, by decide⟩, wd_500, wd_501⟩
theorem lk_L_99 : LkV AW RL 99 yX7_pace cX7_pace 5 (some .int) 4 := ⟨⟨wd_502, wd_503, wd_229, by decide, by decide, by decide⟩, wd_504, wd_505⟩
theorem lk_L_102 : LkV AW RL 102 yX8_pace cX8_pace 5 (some .int) 4 := ⟨⟨wd_506, wd_507, wd_296, by decide, by decide, by decide⟩, wd_508, wd_509⟩
theorem lk_L_103 : LkV AW RL 103 yX7_plan cX7_plan 5 (some .int) 4 := ⟨⟨wd_510, wd_511, wd_229, by decide, by decide, by decide⟩, wd_512, wd_513⟩
theorem lk_L_106 : LkV AW RL 106 yX8_plan cX8_plan 10 (some .int) 4 := ⟨⟨wd_514, wd_515, wd_296, by decide, by decide, by decide⟩, wd_516, wd_517⟩
theorem lk_L_107 : LkV AW RL 107 yX7_paceAt cX7_paceAt 2 (some .int) 1 := ⟨⟨wd_518, wd_519, wd_229, by decide, by decide, by decide⟩, wd_520, wd_521⟩
theorem lk_L_110 : LkV AW RL 110 yX8_paceAt cX8_paceAt 2 (some .int) 1 := ⟨⟨wd_522, wd_523, wd_296, by decide, by decide, by decide⟩, wd_524, wd_525⟩
theorem lk_L_111 : LkV AW RL 111 yX7_count cX7_count 2 (some .int) 1 := ⟨⟨wd_275, wd_526, wd_229, by decide, by decide, by decide⟩, wd_277, wd_278⟩
theorem lk_L_114 : LkV AW RL 114 yX8_count cX8_count 4 (some .int) 1 := ⟨⟨wd_335, wd_527, wd_296, by decide, by decide, by decide⟩, wd_337, wd_338⟩
theorem lk_L_115 : LkV AW RL 115 yX7_digest cX7_digest 4 (some .long) 0 := ⟨⟨wd_528, wd_529, wd_229, by decide, by decide, by decide⟩, wd_530, wd_531⟩
theorem lk_L_119 : LkV AW RL 119 yX8_digest cX8_digest 5 (some .long) 0 := ⟨⟨wd_532, wd_533, wd_296, by decide, by decide, by decide⟩, wd_534, wd_535⟩
end

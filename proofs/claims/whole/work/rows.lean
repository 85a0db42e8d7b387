section
-- ===== PART A: goes FIRST, ahead of the names: the tables' words, and 'selects' of the private methods out of them =====
/-- a private method of a class that the tables say can be made, by its rows of tables_1 -/
def lw_okq (q : MethodName × Nat) : Prop := (q.1.cls ≠ "java/lang/invoke/MethodHandle" ∧ q.1.cls ≠ "java/lang/invoke/VarHandle") ∧ Cond.instantiable q.1.cls q.2 ∈ tables_1 ∧ Cond.privateMethod q.1 ∈ tables_1 ∧ Cond.instanceMethod q.1 ∈ tables_1
theorem lw_p0 : lw_okq (⟨"IronCampaign$Table", "has", "(II)Z"⟩, 4) := ⟨⟨by decide +kernel, by decide +kernel⟩, List.mem_of_getElem? (i := 26) (by decide +kernel), List.mem_of_getElem? (i := 241) (by decide +kernel), List.mem_of_getElem? (i := 242) (by decide +kernel)⟩
theorem lw_p1 : lw_okq (⟨"IronCampaign", "followRules", "()V"⟩, 15) := ⟨⟨by decide +kernel, by decide +kernel⟩, List.mem_of_getElem? (i := 12) (by decide +kernel), List.mem_of_getElem? (i := 354) (by decide +kernel), List.mem_of_getElem? (i := 355) (by decide +kernel)⟩
theorem lw_p2 : lw_okq (⟨"IronCampaign", "isCalledFor", "(I)Z"⟩, 15) := ⟨⟨by decide +kernel, by decide +kernel⟩, List.mem_of_getElem? (i := 12) (by decide +kernel), List.mem_of_getElem? (i := 358) (by decide +kernel), List.mem_of_getElem? (i := 359) (by decide +kernel)⟩
theorem lw_p3 : lw_okq (⟨"IronCampaign", "castPig", "()I"⟩, 15) := ⟨⟨by decide +kernel, by decide +kernel⟩, List.mem_of_getElem? (i := 12) (by decide +kernel), List.mem_of_getElem? (i := 366) (by decide +kernel), List.mem_of_getElem? (i := 367) (by decide +kernel)⟩
theorem lw_p4 : lw_okq (⟨"IronCampaign$Furnace", "bringDown", "(LIronCampaign$Table;ILIronCampaign$Hearth;[I)V"⟩, 10) := ⟨⟨by decide +kernel, by decide +kernel⟩, List.mem_of_getElem? (i := 98) (by decide +kernel), List.mem_of_getElem? (i := 388) (by decide +kernel), List.mem_of_getElem? (i := 389) (by decide +kernel)⟩
theorem lw_p5 : lw_okq (⟨"IronCampaign$Furnace", "sortOf", "(II)I"⟩, 10) := ⟨⟨by decide +kernel, by decide +kernel⟩, List.mem_of_getElem? (i := 98) (by decide +kernel), List.mem_of_getElem? (i := 394) (by decide +kernel), List.mem_of_getElem? (i := 395) (by decide +kernel)⟩
theorem lw_p6 : lw_okq (⟨"IronCampaign$Sale", "readPigs", "(LIronCampaign$Table;)V"⟩, 9) := ⟨⟨by decide +kernel, by decide +kernel⟩, List.mem_of_getElem? (i := 162) (by decide +kernel), List.mem_of_getElem? (i := 458) (by decide +kernel), List.mem_of_getElem? (i := 459) (by decide +kernel)⟩
theorem lw_p7 : lw_okq (⟨"IronCampaign$Sale", "readHopes", "(LIronCampaign$Table;)V"⟩, 9) := ⟨⟨by decide +kernel, by decide +kernel⟩, List.mem_of_getElem? (i := 162) (by decide +kernel), List.mem_of_getElem? (i := 463) (by decide +kernel), List.mem_of_getElem? (i := 464) (by decide +kernel)⟩
theorem lw_p8 : lw_okq (⟨"IronCampaign$Sale", "canTake", "(LIronCampaign$Table;II)Z"⟩, 9) := ⟨⟨by decide +kernel, by decide +kernel⟩, List.mem_of_getElem? (i := 162) (by decide +kernel), List.mem_of_getElem? (i := 467) (by decide +kernel), List.mem_of_getElem? (i := 468) (by decide +kernel)⟩
theorem lw_p9 : lw_okq (⟨"IronCampaignModel", "oneTick", "()V"⟩, 57) := ⟨⟨by decide +kernel, by decide +kernel⟩, List.mem_of_getElem? (i := 526) (by decide +kernel), List.mem_of_getElem? (i := 745) (by decide +kernel), List.mem_of_getElem? (i := 746) (by decide +kernel)⟩
theorem lw_p10 : lw_okq (⟨"IronCampaignModel", "act", "(I)V"⟩, 57) := ⟨⟨by decide +kernel, by decide +kernel⟩, List.mem_of_getElem? (i := 526) (by decide +kernel), List.mem_of_getElem? (i := 749) (by decide +kernel), List.mem_of_getElem? (i := 750) (by decide +kernel)⟩
theorem lw_p11 : lw_okq (⟨"IronCampaignModel", "comesDown", "()V"⟩, 57) := ⟨⟨by decide +kernel, by decide +kernel⟩, List.mem_of_getElem? (i := 526) (by decide +kernel), List.mem_of_getElem? (i := 757) (by decide +kernel), List.mem_of_getElem? (i := 758) (by decide +kernel)⟩
theorem lw_p12 : lw_okq (⟨"IronCampaignModel", "see", "(II)V"⟩, 57) := ⟨⟨by decide +kernel, by decide +kernel⟩, List.mem_of_getElem? (i := 526) (by decide +kernel), List.mem_of_getElem? (i := 761) (by decide +kernel), List.mem_of_getElem? (i := 762) (by decide +kernel)⟩
theorem lw_p13 : lw_okq (⟨"IronCampaignModel", "findSale", "()I"⟩, 57) := ⟨⟨by decide +kernel, by decide +kernel⟩, List.mem_of_getElem? (i := 526) (by decide +kernel), List.mem_of_getElem? (i := 798) (by decide +kernel), List.mem_of_getElem? (i := 799) (by decide +kernel)⟩
theorem lw_p14 : lw_okq (⟨"IronCampaignModel", "payOf", "(I)I"⟩, 57) := ⟨⟨by decide +kernel, by decide +kernel⟩, List.mem_of_getElem? (i := 526) (by decide +kernel), List.mem_of_getElem? (i := 802) (by decide +kernel), List.mem_of_getElem? (i := 803) (by decide +kernel)⟩
theorem lw_p15 : lw_okq (⟨"IronCampaignModel", "digit", "(II)I"⟩, 57) := ⟨⟨by decide +kernel, by decide +kernel⟩, List.mem_of_getElem? (i := 526) (by decide +kernel), List.mem_of_getElem? (i := 806) (by decide +kernel), List.mem_of_getElem? (i := 807) (by decide +kernel)⟩
def lw_privs_1 : List (MethodName × Nat) := [(⟨"IronCampaign$Table", "has", "(II)Z"⟩, 4), (⟨"IronCampaign", "followRules", "()V"⟩, 15), (⟨"IronCampaign", "isCalledFor", "(I)Z"⟩, 15), (⟨"IronCampaign", "castPig", "()I"⟩, 15), (⟨"IronCampaign$Furnace", "bringDown", "(LIronCampaign$Table;ILIronCampaign$Hearth;[I)V"⟩, 10), (⟨"IronCampaign$Furnace", "sortOf", "(II)I"⟩, 10), (⟨"IronCampaign$Sale", "readPigs", "(LIronCampaign$Table;)V"⟩, 9), (⟨"IronCampaign$Sale", "readHopes", "(LIronCampaign$Table;)V"⟩, 9), (⟨"IronCampaign$Sale", "canTake", "(LIronCampaign$Table;II)Z"⟩, 9), (⟨"IronCampaignModel", "oneTick", "()V"⟩, 57), (⟨"IronCampaignModel", "act", "(I)V"⟩, 57), (⟨"IronCampaignModel", "comesDown", "()V"⟩, 57), (⟨"IronCampaignModel", "see", "(II)V"⟩, 57), (⟨"IronCampaignModel", "findSale", "()I"⟩, 57), (⟨"IronCampaignModel", "payOf", "(I)I"⟩, 57), (⟨"IronCampaignModel", "digit", "(II)I"⟩, 57)]
theorem lw_r1 : ∀ q ∈ lw_privs_1, lw_okq q := List.forall_mem_cons.mpr ⟨lw_p0, List.forall_mem_cons.mpr ⟨lw_p1, List.forall_mem_cons.mpr ⟨lw_p2, List.forall_mem_cons.mpr ⟨lw_p3, List.forall_mem_cons.mpr ⟨lw_p4, List.forall_mem_cons.mpr ⟨lw_p5, List.forall_mem_cons.mpr ⟨lw_p6, List.forall_mem_cons.mpr ⟨lw_p7, List.forall_mem_cons.mpr ⟨lw_p8, List.forall_mem_cons.mpr ⟨lw_p9, List.forall_mem_cons.mpr ⟨lw_p10, List.forall_mem_cons.mpr ⟨lw_p11, List.forall_mem_cons.mpr ⟨lw_p12, List.forall_mem_cons.mpr ⟨lw_p13, List.forall_mem_cons.mpr ⟨lw_p14, List.forall_mem_cons.mpr ⟨lw_p15, fun _ h => absurd h List.not_mem_nil⟩⟩⟩⟩⟩⟩⟩⟩⟩⟩⟩⟩⟩⟩⟩⟩
theorem lw_p16 : lw_okq (⟨"IronCampaignModel", "ironOf", "(IIIIII)I"⟩, 57) := ⟨⟨by decide +kernel, by decide +kernel⟩, List.mem_of_getElem? (i := 526) (by decide +kernel), List.mem_of_getElem? (i := 826) (by decide +kernel), List.mem_of_getElem? (i := 827) (by decide +kernel)⟩
def lw_privs_2 : List (MethodName × Nat) := [(⟨"IronCampaignModel", "ironOf", "(IIIIII)I"⟩, 57)]
theorem lw_r2 : ∀ q ∈ lw_privs_2, lw_okq q := List.forall_mem_cons.mpr ⟨lw_p16, fun _ h => absurd h List.not_mem_nil⟩
def lw_privs : List (MethodName × Nat) := lw_privs_1 ++ (lw_privs_2)
def lw_tbl : List Cond := k2_sels lw_privs ++ tables_1
theorem lw_privs_ok : ∀ q ∈ lw_privs, lw_okq q := by
  show ∀ q ∈ lw_privs_1 ++ (lw_privs_2), lw_okq q
  exact List.forall_mem_append.mpr ⟨lw_r1, lw_r2⟩
end
section
abbrev Sg : Type := Nat → Nat → Int32
abbrev Shp : Type := (Nat × List (Option Nat)) ⊕ (Nat × Nat)
def sgu (σ : Sg) (q k : Nat) (v : Int32) : Sg := fun q' => if q' = q then upd (σ q) k v else σ q'
def cv (a : Nat → Nat) (v : Value) : Value := match v with
  | .ref q => .ref (a q)
  | w => w
def cvp (a : Nat → Nat) (x : Nat × Value) : Nat × Value := (x.1, cv a x.2)
def fv (a : Nat → Nat) (f : Nat → Int32) (k : Nat) (x : Option Nat) : Value := match x with
  | none => .int (f k)
  | some 0 => .null
  | some (r + 1) => .ref (a r)
def flds (a : Nat → Nat) (f : Nat → Int32) : Nat → List (Option Nat) → List Value
  | _, [] => []
  | k, x :: xs => fv a f k x :: flds a f (k + 1) xs
def cel (ac : Nat → ClassId) (a : Nat → Nat) (f : Nat → Int32) (s : Shp) : va_E := match s with
  | .inl o => .inr (o.1, flds a f 0 o.2)
  | .inr z => .inl (ac z.1, z.2, .inl f)
def Wd (ac : Nat → ClassId) (a : Nat → Nat) (σ : Sg) : Nat → List Shp → va_W
  | _, [] => []
  | q, s :: ss => (a q, cel ac a (σ q) s) :: Wd ac a σ (q + 1) ss
theorem cv_cat (a : Nat → Nat) (v : Value) : (cv a v).category = v.category := by cases v <;> rfl
theorem flds_len (a : Nat → Nat) (f : Nat → Int32) : ∀ (fl : List (Option Nat)) (i : Nat), (flds a f i fl).length = fl.length
  | [], _ => rfl
  | x :: xs, i => by simp only [flds, List.length_cons, flds_len a f xs (i + 1)]
theorem flds_get (a : Nat → Nat) (f : Nat → Int32) : ∀ (fl : List (Option Nat)) (i k : Nat) (x : Option Nat), fl[k]? = some x → (flds a f i fl)[k]? = some (fv a f (i + k) x)
  | [], i, k, x, h => by simp at h
  | y :: ys, i, 0, x, h => by
    simp only [List.getElem?_cons_zero, Option.some.injEq] at h
    subst h
    rfl
  | y :: ys, i, k + 1, x, h => by
    rw [List.getElem?_cons_succ] at h
    have := flds_get a f ys (i + 1) k x h
    rw [show i + (k + 1) = i + 1 + k by omega]
    show (fv a f i y :: flds a f (i + 1) ys)[k + 1]? = _
    rw [List.getElem?_cons_succ]
    exact this
theorem flds_congr (a : Nat → Nat) {f f' : Nat → Int32} : ∀ (fl : List (Option Nat)) (i : Nat), (∀ j, i ≤ j → f j = f' j) → flds a f i fl = flds a f' i fl
  | [], _, _ => rfl
  | x :: xs, i, h => by
    show fv a f i x :: flds a f (i + 1) xs = fv a f' i x :: flds a f' (i + 1) xs
    rw [flds_congr a xs (i + 1) (fun j hj => h j (by omega))]
    cases x with
    | none => show Value.int (f i) :: _ = Value.int (f' i) :: _; rw [h i (Nat.le_refl i)]
    | some r => cases r <;> rfl
theorem flds_congA {a a' : Nat → Nat} (f : Nat → Int32) : ∀ (fl : List (Option Nat)) (i : Nat), (∀ r, some (r + 1) ∈ fl → a r = a' r) → flds a f i fl = flds a' f i fl
  | [], _, _ => rfl
  | x :: xs, i, h => by
    show fv a f i x :: flds a f (i + 1) xs = fv a' f i x :: flds a' f (i + 1) xs
    rw [flds_congA f xs (i + 1) (fun r hr => h r (List.mem_cons_of_mem _ hr))]
    cases x with
    | none => rfl
    | some r => cases r with
      | zero => rfl
      | succ r => show Value.ref (a r) :: _ = Value.ref (a' r) :: _; rw [h r List.mem_cons_self]
theorem flds_seti (a : Nat → Nat) (v : Int32) : ∀ (fl : List (Option Nat)) (f : Nat → Int32) (i k : Nat), fl[k]? = some none → (flds a f i fl).set k (.int v) = flds a (upd f (i + k) v) i fl
  | [], f, i, k, h => by simp at h
  | x :: xs, f, i, 0, h => by
    simp only [List.getElem?_cons_zero, Option.some.injEq] at h
    subst h
    show Value.int v :: flds a f (i + 1) xs = Value.int (upd f (i + 0) v i) :: flds a (upd f (i + 0) v) (i + 1) xs
    rw [flds_congr (f := f) (f' := upd f (i + 0) v) a xs (i + 1) (fun j hj => by simp only [upd]; rw [if_neg (by omega)])]
    simp [upd]
  | x :: xs, f, i, k + 1, h => by
    rw [List.getElem?_cons_succ] at h
    have ih := flds_seti a v xs f (i + 1) k h
    show fv a f i x :: (flds a f (i + 1) xs).set k (.int v) = fv a (upd f (i + (k + 1)) v) i x :: flds a (upd f (i + (k + 1)) v) (i + 1) xs
    rw [ih, show i + 1 + k = i + (k + 1) by omega]
    cases x with
    | none => show Value.int (f i) :: _ = Value.int (upd f (i + (k + 1)) v i) :: _; rw [show upd f (i + (k + 1)) v i = f i from by simp only [upd]; rw [if_neg (by omega)]]
    | some r => cases r <;> rfl
theorem flds_setr (a : Nat → Nat) (f : Nat → Int32) (r : Nat) : ∀ (fl : List (Option Nat)) (i k : Nat), (flds a f i fl).set k (.ref (a r)) = flds a f i (fl.set k (some (r + 1)))
  | [], i, k => rfl
  | x :: xs, i, 0 => rfl
  | x :: xs, i, k + 1 => by
    show fv a f i x :: (flds a f (i + 1) xs).set k (.ref (a r)) = fv a f i x :: flds a f (i + 1) (xs.set k (some (r + 1)))
    rw [flds_setr a f r xs (i + 1) k]
theorem Wd_len (ac : Nat → ClassId) (a : Nat → Nat) (σ : Sg) : ∀ (S : List Shp) (i : Nat), (Wd ac a σ i S).length = S.length
  | [], _ => rfl
  | x :: xs, i => by simp only [Wd, List.length_cons, Wd_len ac a σ xs (i + 1)]
theorem Wd_get (ac : Nat → ClassId) (a : Nat → Nat) (σ : Sg) : ∀ (S : List Shp) (i q : Nat) (s : Shp), S[q]? = some s → (Wd ac a σ i S)[q]? = some (a (i + q), cel ac a (σ (i + q)) s)
  | [], i, q, s, h => by simp at h
  | y :: ys, i, 0, s, h => by
    simp only [List.getElem?_cons_zero, Option.some.injEq] at h
    subst h
    rfl
  | y :: ys, i, q + 1, s, h => by
    rw [List.getElem?_cons_succ] at h
    have := Wd_get ac a σ ys (i + 1) q s h
    rw [show i + (q + 1) = i + 1 + q by omega]
    show ((a i, cel ac a (σ i) y) :: Wd ac a σ (i + 1) ys)[q + 1]? = _
    rw [List.getElem?_cons_succ]
    exact this
theorem Wd_get0 {ac : Nat → ClassId} {a : Nat → Nat} {σ : Sg} {S : List Shp} {q : Nat} {s : Shp} (h : S[q]? = some s) : (Wd ac a σ 0 S)[q]? = some (a q, cel ac a (σ q) s) := by
  have := Wd_get ac a σ S 0 q s h
  rwa [Nat.zero_add] at this
theorem Wd_congr (ac : Nat → ClassId) (a : Nat → Nat) {σ σ' : Sg} : ∀ (S : List Shp) (i : Nat), (∀ j, i ≤ j → σ j = σ' j) → Wd ac a σ i S = Wd ac a σ' i S
  | [], _, _ => rfl
  | x :: xs, i, h => by
    show (a i, cel ac a (σ i) x) :: Wd ac a σ (i + 1) xs = (a i, cel ac a (σ' i) x) :: Wd ac a σ' (i + 1) xs
    rw [Wd_congr ac a xs (i + 1) (fun j hj => h j (by omega)), h i (Nat.le_refl i)]
theorem Wd_set (ac : Nat → ClassId) (a : Nat → Nat) (f : Nat → Int32) (s' : Shp) : ∀ (S : List Shp) (σ : Sg) (i q : Nat), (Wd ac a σ i S).set q (a (i + q), cel ac a f s') = Wd ac a (fun j => if j = i + q then f else σ j) i (S.set q s')
  | [], σ, i, q => rfl
  | x :: xs, σ, i, 0 => by
    show (a (i + 0), cel ac a f s') :: Wd ac a σ (i + 1) xs = (a i, cel ac a (if i = i + 0 then f else σ i) s') :: Wd ac a (fun j => if j = i + 0 then f else σ j) (i + 1) xs
    rw [if_pos (by omega), Wd_congr (σ := σ) (σ' := fun j => if j = i + 0 then f else σ j) ac a xs (i + 1) (fun j hj => by rw [if_neg (by omega)])]
    rfl
  | x :: xs, σ, i, q + 1 => by
    show (a i, cel ac a (σ i) x) :: (Wd ac a σ (i + 1) xs).set q (a (i + (q + 1)), cel ac a f s') = (a i, cel ac a (if i = i + (q + 1) then f else σ i) x) :: Wd ac a (fun j => if j = i + (q + 1) then f else σ j) (i + 1) (xs.set q s')
    rw [if_neg (by omega), show i + (q + 1) = i + 1 + q by omega, Wd_set ac a f s' xs σ (i + 1) q]
theorem Wd_set0 {ac : Nat → ClassId} {a : Nat → Nat} {f : Nat → Int32} {s' : Shp} {S : List Shp} {σ : Sg} {q : Nat} : (Wd ac a σ 0 S).set q (a q, cel ac a f s') = Wd ac a (fun j => if j = q then f else σ j) 0 (S.set q s') := by
  have := Wd_set ac a f s' S σ 0 q
  rwa [Nat.zero_add] at this
theorem set_same {α : Type} : ∀ (S : List α) (q : Nat) (s : α), S[q]? = some s → S.set q s = S
  | [], q, s, h => by simp at h
  | x :: xs, 0, s, h => by
    simp only [List.getElem?_cons_zero, Option.some.injEq] at h
    subst h
    rfl
  | x :: xs, q + 1, s, h => by
    rw [List.getElem?_cons_succ] at h
    show x :: xs.set q s = x :: xs
    rw [set_same xs q s h]
theorem Wd_puti {ac : Nat → ClassId} {a : Nat → Nat} {S : List Shp} {σ : Sg} {q ci k : Nat} {fl : List (Option Nat)} {v : Int32} (h : S[q]? = some (.inl (ci, fl))) (hk : fl[k]? = some none) : (Wd ac a σ 0 S).set q (a q, .inr (ci, (flds a (σ q) 0 fl).set k (.int v))) = Wd ac a (sgu σ q k v) 0 S := by
  rw [flds_seti a v fl (σ q) 0 k hk, Nat.zero_add]
  show (Wd ac a σ 0 S).set q (a q, cel ac a (upd (σ q) k v) (.inl (ci, fl))) = _
  rw [Wd_set0, set_same S q _ h]
  rfl
theorem Wd_putr {ac : Nat → ClassId} {a : Nat → Nat} {S : List Shp} {σ : Sg} {q ci k r : Nat} {fl : List (Option Nat)} : (Wd ac a σ 0 S).set q (a q, .inr (ci, (flds a (σ q) 0 fl).set k (.ref (a r)))) = Wd ac a σ 0 (S.set q (.inl (ci, fl.set k (some (r + 1))))) := by
  rw [flds_setr a (σ q) r fl 0 k]
  show (Wd ac a σ 0 S).set q (a q, cel ac a (σ q) (.inl (ci, fl.set k (some (r + 1))))) = _
  rw [Wd_set0]
  exact Wd_congr ac a _ 0 (fun j _ => by show (if j = q then σ q else σ j) = σ j; by_cases e : j = q <;> simp [e])
theorem Wd_puta {ac : Nat → ClassId} {a : Nat → Nat} {S : List Shp} {σ : Sg} {q k z n : Nat} {v : Int32} (h : S[q]? = some (.inr (z, n))) : (Wd ac a σ 0 S).set q (a q, .inl (ac z, n, .inl (upd (σ q) k v))) = Wd ac a (sgu σ q k v) 0 S := by
  show (Wd ac a σ 0 S).set q (a q, cel ac a (upd (σ q) k v) (.inr (z, n))) = _
  rw [Wd_set0, set_same S q _ h]
  rfl
def wfS : List Shp → Nat → Bool
  | [], _ => true
  | .inl o :: ss, n => o.2.all (fun x => match x with
    | some (r + 1) => decide (r < n)
    | _ => true) && wfS ss n
  | .inr _ :: ss, n => wfS ss n
theorem Wd_congA {ac : Nat → ClassId} {a a' : Nat → Nat} {σ : Sg} {n : Nat} (h : ∀ q, q < n → a' q = a q) : ∀ (S : List Shp) (i : Nat), wfS S n = true → i + S.length ≤ n → Wd ac a' σ i S = Wd ac a σ i S
  | [], _, _, _ => rfl
  | .inl o :: xs, i, hw, hn => by
    simp only [wfS, Bool.and_eq_true, List.all_eq_true] at hw
    simp only [List.length_cons] at hn
    show (a' i, cel ac a' (σ i) (.inl o)) :: Wd ac a' σ (i + 1) xs = (a i, cel ac a (σ i) (.inl o)) :: Wd ac a σ (i + 1) xs
    rw [Wd_congA h xs (i + 1) hw.2 (by omega), h i (by omega)]
    show (a i, Sum.inr (o.1, flds a' (σ i) 0 o.2)) :: _ = (a i, Sum.inr (o.1, flds a (σ i) 0 o.2)) :: _
    rw [flds_congA (a := a') (a' := a) (σ i) o.2 0 (fun r hr => h r (by have := hw.1 _ hr; simpa using this))]
  | .inr z :: xs, i, hw, hn => by
    simp only [wfS] at hw
    simp only [List.length_cons] at hn
    show (a' i, cel ac a' (σ i) (.inr z)) :: Wd ac a' σ (i + 1) xs = (a i, cel ac a (σ i) (.inr z)) :: Wd ac a σ (i + 1) xs
    rw [Wd_congA h xs (i + 1) hw (by omega), h i (by omega)]
    rfl
theorem Wd_app (ac : Nat → ClassId) (a : Nat → Nat) (σ : Sg) : ∀ (S T : List Shp) (i : Nat), Wd ac a σ i (S ++ T) = Wd ac a σ i S ++ Wd ac a σ (i + S.length) T
  | [], T, i => rfl
  | x :: xs, T, i => by
    show (a i, cel ac a (σ i) x) :: Wd ac a σ (i + 1) (xs ++ T) = (a i, cel ac a (σ i) x) :: (Wd ac a σ (i + 1) xs ++ Wd ac a σ (i + (xs.length + 1)) T)
    rw [Wd_app ac a σ xs T (i + 1), show i + 1 + xs.length = i + (xs.length + 1) by omega]
theorem Wd_push {ac : Nat → ClassId} {a : Nat → Nat} {σ : Sg} {S : List Shp} {s : Shp} {q : Nat} (hw : wfS S S.length = true) (hs : cel ac (fun j => if j = S.length then q else a j) (σ S.length) s = cel ac a (σ S.length) s) : Wd ac a σ 0 S ++ [(q, cel ac a (σ S.length) s)] = Wd ac (fun j => if j = S.length then q else a j) σ 0 (S ++ [s]) := by
  rw [Wd_app, Wd_congA (a := a) (a' := fun j => if j = S.length then q else a j) (n := S.length) (fun j hj => if_neg (by omega)) S 0 hw (by omega), Nat.zero_add]
  show _ = _ ++ [((if S.length = S.length then q else a S.length), cel ac (fun j => if j = S.length then q else a j) (σ S.length) s)]
  rw [if_pos rfl, hs]
end
section
abbrev Nm : Type := List vw_C × List (String × Nat × String × String × String × String) × List (String × Nat × MethodName × String)
abbrev Ctx : Type := Program × Launch × Env × Room × State × MethodId × Array Value × List Frame × Method × Code × va_G × (Nat → ClassId) × ((Nat → Nat) → Prop) × (Nat → Prop) × (State → Prop)
def tys (ac : Nat → ClassId) : List (ClassId × FieldType) := [(ac 0, .int), (ac 1, .boolean)]
def NWok (nm : Nm) (U : State) : Prop := (∀ q ∈ nm.2.1, va_Nw (.fieldLinkNest q.1 q.2.1 q.2.2.1 q.2.2.2.1 q.2.2.2.2.1 q.2.2.2.2.2) U) ∧ ∀ q ∈ nm.2.2, va_Nw (.methodLinkNest q.1 q.2.1 q.2.2.1 q.2.2.2) U
theorem NWok.warm {nm : Nm} {s U : State} (hW : s.WarmedH U.vm) (h : NWok nm s) : NWok nm U := ⟨fun q hq => va_Nw.warmF hW (h.1 q hq), fun q hq => va_Nw.warmM hW (h.2 q hq)⟩
theorem NWok.same {nm : Nm} {u U : State} (e : u.vm = U.vm) (h : NWok nm u) : NWok nm U := ⟨fun q hq => va_Nw.same rfl e (h.1 q hq), fun q hq => va_Nw.same rfl e (h.2 q hq)⟩
def XW (nm : Nm) (X : Ctx) (nL ce sl : Nat) (S : List Shp) (σ : Sg) (pc : Nat) (L : List (Nat × Value)) (st : List Value) : Prop := match X with
  | (p, l, e, R, s, m, args, below, meth, c, D, ac, E, A, Q) => ∀ (a : Nat → Nat) (H : Heap) (locs : List Loc) (ls : Array Slot), E a → va_P D nm.1 (Wd ac a σ 0 S) H → va_D A (Wd ac a σ 0 S) → va_S A s.heap H locs → lv_has ls nL (L.map (cvp a)) → W p l e R s m args below meth c H locs ce sl Q (F0 m pc ls (st.map (cv a)))
def Cx (nm : Nm) (X : Ctx) (cc : ByteArray) (nL : Nat) (own : String) (Ts : List Cond) (rty : Option FieldType) (R0 : Room) : Prop := match X with
  | (p, l, e, R, s, m, args, below, meth, c, D, ac, E, A, Q) => CallFix p m c cc nL s args Ts own ∧ meth.sig.returnType = rty ∧ meth.locks = false ∧ va_K D nm.1 (tys ac) s ∧ NWok nm s ∧ (∀ q, s.heap.size ≤ q → A q) ∧ R = R0
def Ix (X : Ctx) : Prop := match X with
  | (_, _, _, _, _, _, _, _, meth, _, _, _, E, _, _) => meth.name = "<init>"
def Ex (X : Ctx) (n0 : Nat) : Prop := match X with
  | (_, _, _, _, _, _, _, _, _, _, _, _, E, _, _) => ∀ (a a' : Nat → Nat), E a → (∀ q, q < n0 → a' q = a q) → E a'
def QX (cl : List vw_C) (D : va_G) (ac : Nat → ClassId) (E : (Nat → Nat) → Prop) (A : Nat → Prop) (ret : Option Value) (S : List Shp) (σ : Sg) : Array Value → State → Outcome → State → Prop := fun _ st oc t => oc = .returned ret ∧ (∃ a, E a ∧ va_P D cl (Wd ac a σ 0 S) t.heap ∧ va_D A (Wd ac a σ 0 S)) ∧ va_F A st t
def Rx (nm : Nm) (X : Ctx) (mc ms : Nat) (ret : Option Value) (S : List Shp) (σ : Sg) : Prop := match X with
  | (p, l, e, R, s, m, args, below, meth, c, D, ac, E, A, Q) => Q = MQ below (QX nm.1 D ac E A ret S σ) args s mc ms A
def PX (nm : Nm) (D : va_G) (ac : Nat → ClassId) (a : Nat → Nat) (S : List Shp) (σ : Sg) (sz : Nat) (U : State) : Prop := U.heap.size = sz ∧ va_P D nm.1 (Wd ac a σ 0 S) U.heap ∧ va_K D nm.1 (tys ac) U ∧ NWok nm U ∧ va_D (fun _ => True) (Wd ac a σ 0 S)
def Ctr (nm : Nm) (y : MethodName) (ws : List Cond) (rm : Room) (S : List Shp) (σ : Sg) (vs : List Value) (ret : Option Value) (σ' : Sg) : Prop :=
  ∀ (l : Launch) (D : va_G) (ac : Nat → ClassId) (a : Nat → Nat) (sz : Nat), Met l y ws rm (va_Pc (vs.map (cv a)) (PX nm D ac a S σ sz)) (QX nm.1 D ac (fun a' => a' = a) (va_A (Wd ac a σ 0 S) sz) ret S σ') 0 0 (va_A (Wd ac a σ 0 S) sz)
def CtrA (nm : Nm) (y : MethodName) (ws : List Cond) (rm : Room) (mc ms : Nat) (S : List Shp) (σ : Sg) (vs : List Value) (S' : List Shp) (σ' : Sg) : Prop :=
  ∀ (l : Launch) (D : va_G) (ac : Nat → ClassId) (a : Nat → Nat) (sz : Nat), Met l y ws rm (va_Pc (vs.map (cv a)) (PX nm D ac a S σ sz)) (QX nm.1 D ac (fun a' => ∀ q, q < S.length → a' q = a q) (va_A (Wd ac a σ 0 S) sz) none S' σ') mc ms (va_A (Wd ac a σ 0 S) sz)
def fl1 (i : Nat) : Nat × Value → Bool := fun q => !(q.1 == i) && !(q.1 + 1 == i && q.2.category == 2)
def fl2 (i : Nat) : Nat × Value → Bool := fun q => !(q.1 == i) && (!(q.1 == i + 1) && !(q.1 + 1 == i && q.2.category == 2))
theorem map_fl1 (a : Nat → Nat) (i : Nat) : ∀ (L : List (Nat × Value)), (L.map (cvp a)).filter (fl1 i) = (L.filter (fl1 i)).map (cvp a)
  | [] => rfl
  | q :: L => by
    have e : fl1 i (cvp a q) = fl1 i q := by simp only [fl1, cvp, cv_cat]
    simp only [List.map_cons, List.filter_cons, e, map_fl1 a i L]
    by_cases h : fl1 i q = true <;> simp [h]
theorem map_fl2 (a : Nat → Nat) (i : Nat) : ∀ (L : List (Nat × Value)), (L.map (cvp a)).filter (fl2 i) = (L.filter (fl2 i)).map (cvp a)
  | [] => rfl
  | q :: L => by
    have e : fl2 i (cvp a q) = fl2 i q := by simp only [fl2, cvp, cv_cat]
    simp only [List.map_cons, List.filter_cons, e, map_fl2 a i L]
    by_cases h : fl2 i q = true <;> simp [h]
theorem pick_map {f : Nat × Value → Nat × Value} (l : List (Nat × Value)) : ∀ (ks : List Nat), lv_pick (l.map f) ks = (lv_pick l ks).map f
  | [] => rfl
  | k :: ks => by
    have ih := pick_map (f := f) l ks
    unfold lv_pick at ih ⊢
    simp only [List.filterMap_cons, List.getElem?_map]
    cases h : l[k]? with
    | none => simpa [List.getElem?_map] using ih
    | some v => simpa [List.getElem?_map] using ih
theorem ps_fl1 (a : Nat → Nat) {i : Nat} {v : Value} {L L' : List (Nat × Value)} {ks : List Nat} (h : lv_pick ((i, v) :: L.filter (fl1 i)) ks = L') : lv_pick ((i, cv a v) :: (L.map (cvp a)).filter (fl1 i)) ks = L'.map (cvp a) := by
  rw [map_fl1, ← h, ← pick_map]
  rfl
theorem ps_fl2 (a : Nat → Nat) {i : Nat} {v : Value} {L L' : List (Nat × Value)} {ks : List Nat} (h : lv_pick ((i, v) :: L.filter (fl2 i)) ks = L') : lv_pick ((i, cv a v) :: (L.map (cvp a)).filter (fl2 i)) ks = L'.map (cvp a) := by
  rw [map_fl2, ← h, ← pick_map]
  rfl
theorem args_map (a : Nat → Nat) : ∀ (vs : List Value) (i : Nat), lv_args i (vs.map (cv a)) = (lv_args i vs).map (cvp a)
  | [], _ => rfl
  | v :: vs, i => by
    simp only [List.map_cons, lv_args, cv_cat, args_map a vs]
    rfl
theorem lgsl_map (a : Nat → Nat) : ∀ (vs : List Value), (lg_sl (vs.map (cv a))).length = (lg_sl vs).length
  | [] => rfl
  | v :: vs => by
    have ih := lgsl_map a vs
    unfold lg_sl at ih ⊢
    simp only [List.map_cons, List.flatMap_cons, List.length_append, ih, cv_cat]
    by_cases h : v.category = 2 <;> simp [h]
def gd {α : Type} (b : Bool) (x : Option α) : Option α := if b = true then x else none
def vi (i : Int32) (n : Nat) : Bool := !(decide (i < 0) || decide (n ≤ i.toNatClampNeg))
def lt_ {α β : Type} (x : α) (k : α → Option β) : Option β := k x
def bd {β : Type} (o : Option (Int32 × Sg)) (k : Int32 → Sg → Option β) : Option β := match o with
  | none => none
  | some z => k z.1 z.2
def bdl {β : Type} (o : Option (Int64 × Sg)) (k : Int64 → Sg → Option β) : Option β := match o with
  | none => none
  | some z => k z.1 z.2
def bdv {β : Type} (o : Option Sg) (k : Sg → Option β) : Option β := match o with
  | none => none
  | some z => k z
theorem gd_some {α : Type} {b : Bool} {x : Option α} {r : α} (h : gd b x = some r) : b = true ∧ x = some r := by
  unfold gd at h
  by_cases e : b = true
  · rw [if_pos e] at h
    exact ⟨e, h⟩
  · rw [if_neg e] at h
    cases h
theorem vi_in {i : Int32} {n : Nat} (h : vi i n = true) : vp_in i n := by
  unfold vi at h
  unfold vp_in
  simpa using h
theorem bd_some {β : Type} {o : Option (Int32 × Sg)} {k : Int32 → Sg → Option β} {r : β} (h : bd o k = some r) : ∃ v σ, o = some (v, σ) ∧ k v σ = some r := by
  unfold bd at h
  cases o with
  | none => cases h
  | some z => exact ⟨z.1, z.2, rfl, h⟩
theorem bdl_some {β : Type} {o : Option (Int64 × Sg)} {k : Int64 → Sg → Option β} {r : β} (h : bdl o k = some r) : ∃ v σ, o = some (v, σ) ∧ k v σ = some r := by
  unfold bdl at h
  cases o with
  | none => cases h
  | some z => exact ⟨z.1, z.2, rfl, h⟩
theorem bdv_some {β : Type} {o : Option Sg} {k : Sg → Option β} {r : β} (h : bdv o k = some r) : ∃ σ, o = some σ ∧ k σ = some r := by
  unfold bdv at h
  cases o with
  | none => cases h
  | some z => exact ⟨z, rfl, h⟩
theorem P_eq {D : va_G} {cl : List vw_C} {w w' : va_W} {H : Heap} (e : w = w') (h : va_P D cl w H) : va_P D cl w' H := e ▸ h
theorem D_eq {A : Nat → Prop} {w w' : va_W} (e : w = w') (h : va_D A w) : va_D A w' := e ▸ h
theorem cat_sum (a : Nat → Nat) : ∀ (st : List Value), ((st.map (cv a)).map fun v => v.category).sum = (st.map fun v => v.category).sum
  | [] => rfl
  | v :: st => by
    simp only [List.map_cons, List.sum_cons, cv_cat]
    rw [cat_sum a st]
def bz (v : Int32) : Bool := decide (v = 0) || decide (v = 1)
theorem bz_nar {v : Int32} (h : bz v = true) : narrow .boolean (.int v) = .int v := by
  unfold bz at h
  simp only [Bool.or_eq_true, decide_eq_true_eq] at h
  rcases h with rfl | rfl <;> rfl
theorem bz_fits {v : Int32} (h : bz v = true) : fits .boolean (.int v) = true := by
  unfold bz at h
  simp only [Bool.or_eq_true, decide_eq_true_eq] at h
  rcases h with rfl | rfl <;> rfl
section XR
variable {nm : Nm} {X : Ctx} {cc : ByteArray} {nL ce sl pc : Nat} {own : String} {Ts : List Cond} {rty : Option FieldType} {R0 : Room} {S : List Shp} {σ : Sg} {L L' : List (Nat × Value)} {st : List Value} {β : Type} {out : β}
theorem X_iconst (C : Cx nm X cc nL own Ts rty R0) {n : Int} {v : Int32} (d : decode cc pc = .ok (.iconst n, 1)) (hv : Int32.ofInt n = v) (k : XW nm X nL ce sl S σ (pc + 1) L (.int v :: st)) : XW nm X nL ce sl S σ (pc) L (st) := by
  obtain ⟨p, l, e, R, s, m, args, below, meth, c, D, ac, E, A, Q⟩ := X
  obtain ⟨⟨hx, hb, hml, hown, hts⟩, hr, hlk, hK, hN, hA, rfl⟩ := C
  intro a H locs ls hE hP hD hS hl
  exact lv_iconst hx hb d hv (k a H locs ls hE hP hD hS hl)
theorem X_bipush (C : Cx nm X cc nL own Ts rty R0) {n : Int} {v : Int32} (d : decode cc pc = .ok (.bipush n, 2)) (hv : (Int8.ofInt n).toInt32 = v) (k : XW nm X nL ce sl S σ (pc + 2) L (.int v :: st)) : XW nm X nL ce sl S σ (pc) L (st) := by
  obtain ⟨p, l, e, R, s, m, args, below, meth, c, D, ac, E, A, Q⟩ := X
  obtain ⟨⟨hx, hb, hml, hown, hts⟩, hr, hlk, hK, hN, hA, rfl⟩ := C
  intro a H locs ls hE hP hD hS hl
  exact lv_bipush hx hb d hv (k a H locs ls hE hP hD hS hl)
theorem X_sipush (C : Cx nm X cc nL own Ts rty R0) {n : Int} {v : Int32} (d : decode cc pc = .ok (.sipush n, 3)) (hv : (Int16.ofInt n).toInt32 = v) (k : XW nm X nL ce sl S σ (pc + 3) L (.int v :: st)) : XW nm X nL ce sl S σ (pc) L (st) := by
  obtain ⟨p, l, e, R, s, m, args, below, meth, c, D, ac, E, A, Q⟩ := X
  obtain ⟨⟨hx, hb, hml, hown, hts⟩, hr, hlk, hK, hN, hA, rfl⟩ := C
  intro a H locs ls hE hP hD hS hl
  exact lv_sipush hx hb d hv (k a H locs ls hE hP hD hS hl)
theorem X_ldc (C : Cx nm X cc nL own Ts rty R0) {index : Nat} {v : Int32} (hw : Cond.constant own index v ∈ Ts) (d : decode cc pc = .ok (.ldc index, 2)) (k : XW nm X nL ce sl S σ (pc + 2) L (.int v :: st)) : XW nm X nL ce sl S σ (pc) L (st) := by
  obtain ⟨p, l, e, R, s, m, args, below, meth, c, D, ac, E, A, Q⟩ := X
  obtain ⟨⟨hx, hb, hml, hown, hts⟩, hr, hlk, hK, hN, hA, rfl⟩ := C
  intro a H locs ls hE hP hD hS hl
  exact lv_ldc hx hb hown (hts _ hw) d (k a H locs ls hE hP hD hS hl)
theorem X_ldc2 (C : Cx nm X cc nL own Ts rty R0) {index : Nat} {v : Int64} (hw : Cond.constantLong own index v ∈ Ts) (d : decode cc pc = .ok (.ldc2_w index, 3)) (k : XW nm X nL ce sl S σ (pc + 3) L (.long v :: st)) : XW nm X nL ce sl S σ (pc) L (st) := by
  obtain ⟨p, l, e, R, s, m, args, below, meth, c, D, ac, E, A, Q⟩ := X
  obtain ⟨⟨hx, hb, hml, hown, hts⟩, hr, hlk, hK, hN, hA, rfl⟩ := C
  intro a H locs ls hE hP hD hS hl
  exact lv_ldc2 hx hb hown (hts _ hw) d (k a H locs ls hE hP hD hS hl)
theorem X_iload_n (C : Cx nm X cc nL own Ts rty R0) {i : Nat} {x : Int32} (kp : Nat) {k0 : Fin 4} (d : decode cc pc = .ok (.iload_n k0, 1)) (hi : (k0 : Nat) = i) (hk : L[kp]? = some (i, .int x)) (k : XW nm X nL ce sl S σ (pc + 1) L (.int x :: st)) : XW nm X nL ce sl S σ (pc) L (st) := by
  obtain ⟨p, l, e, R, s, m, args, below, meth, c, D, ac, E, A, Q⟩ := X
  obtain ⟨⟨hx, hb, hml, hown, hts⟩, hr, hlk, hK, hN, hA, rfl⟩ := C
  intro a H locs ls hE hP hD hS hl
  exact lv_iload_n hx hb d hi (lv_at hl kp (by rw [List.getElem?_map, hk]; rfl)) (k a H locs ls hE hP hD hS hl)
theorem X_iload (C : Cx nm X cc nL own Ts rty R0) {i : Nat} {x : Int32} (kp : Nat) (d : decode cc pc = .ok (.iload i, 2)) (hk : L[kp]? = some (i, .int x)) (k : XW nm X nL ce sl S σ (pc + 2) L (.int x :: st)) : XW nm X nL ce sl S σ (pc) L (st) := by
  obtain ⟨p, l, e, R, s, m, args, below, meth, c, D, ac, E, A, Q⟩ := X
  obtain ⟨⟨hx, hb, hml, hown, hts⟩, hr, hlk, hK, hN, hA, rfl⟩ := C
  intro a H locs ls hE hP hD hS hl
  exact lv_iload hx hb d (lv_at hl kp (by rw [List.getElem?_map, hk]; rfl)) (k a H locs ls hE hP hD hS hl)
theorem X_lload_n (C : Cx nm X cc nL own Ts rty R0) {i : Nat} {x : Int64} (kp : Nat) {k0 : Fin 4} (d : decode cc pc = .ok (.lload_n k0, 1)) (hi : (k0 : Nat) = i) (hk : L[kp]? = some (i, .long x)) (k : XW nm X nL ce sl S σ (pc + 1) L (.long x :: st)) : XW nm X nL ce sl S σ (pc) L (st) := by
  obtain ⟨p, l, e, R, s, m, args, below, meth, c, D, ac, E, A, Q⟩ := X
  obtain ⟨⟨hx, hb, hml, hown, hts⟩, hr, hlk, hK, hN, hA, rfl⟩ := C
  intro a H locs ls hE hP hD hS hl
  exact lv_lload_n hx hb d hi (lv_at hl kp (by rw [List.getElem?_map, hk]; rfl)) (k a H locs ls hE hP hD hS hl)
theorem X_lload (C : Cx nm X cc nL own Ts rty R0) {i : Nat} {x : Int64} (kp : Nat) (d : decode cc pc = .ok (.lload i, 2)) (hk : L[kp]? = some (i, .long x)) (k : XW nm X nL ce sl S σ (pc + 2) L (.long x :: st)) : XW nm X nL ce sl S σ (pc) L (st) := by
  obtain ⟨p, l, e, R, s, m, args, below, meth, c, D, ac, E, A, Q⟩ := X
  obtain ⟨⟨hx, hb, hml, hown, hts⟩, hr, hlk, hK, hN, hA, rfl⟩ := C
  intro a H locs ls hE hP hD hS hl
  exact lv_lload hx hb d (lv_at hl kp (by rw [List.getElem?_map, hk]; rfl)) (k a H locs ls hE hP hD hS hl)
theorem X_aload_n (C : Cx nm X cc nL own Ts rty R0) {i x : Nat} (kp : Nat) {k0 : Fin 4} (d : decode cc pc = .ok (.aload_n k0, 1)) (hi : (k0 : Nat) = i) (hk : L[kp]? = some (i, .ref x)) (k : XW nm X nL ce sl S σ (pc + 1) L (.ref x :: st)) : XW nm X nL ce sl S σ (pc) L (st) := by
  obtain ⟨p, l, e, R, s, m, args, below, meth, c, D, ac, E, A, Q⟩ := X
  obtain ⟨⟨hx, hb, hml, hown, hts⟩, hr, hlk, hK, hN, hA, rfl⟩ := C
  intro a H locs ls hE hP hD hS hl
  exact lv_aload_n (x := a x) hx hb d hi (lv_at hl kp (by rw [List.getElem?_map, hk]; rfl)) (k a H locs ls hE hP hD hS hl)
theorem X_aload (C : Cx nm X cc nL own Ts rty R0) {i x : Nat} (kp : Nat) (d : decode cc pc = .ok (.aload i, 2)) (hk : L[kp]? = some (i, .ref x)) (k : XW nm X nL ce sl S σ (pc + 2) L (.ref x :: st)) : XW nm X nL ce sl S σ (pc) L (st) := by
  obtain ⟨p, l, e, R, s, m, args, below, meth, c, D, ac, E, A, Q⟩ := X
  obtain ⟨⟨hx, hb, hml, hown, hts⟩, hr, hlk, hK, hN, hA, rfl⟩ := C
  intro a H locs ls hE hP hD hS hl
  exact lv_aload (x := a x) hx hb d (lv_at hl kp (by rw [List.getElem?_map, hk]; rfl)) (k a H locs ls hE hP hD hS hl)
theorem X_istore_n (C : Cx nm X cc nL own Ts rty R0) {i : Nat} {x : Int32} {k0 : Fin 4} (ks : List Nat) (d : decode cc pc = .ok (.istore_n k0, 1)) (hi : (k0 : Nat) = i) (hn : i < nL) (hL : lv_pick ((i, Value.int x) :: L.filter (fl1 i)) ks = L') (k : XW nm X nL ce sl S σ (pc + 1) L' (st)) : XW nm X nL ce sl S σ (pc) L (.int x :: st) := by
  obtain ⟨p, l, e, R, s, m, args, below, meth, c, D, ac, E, A, Q⟩ := X
  obtain ⟨⟨hx, hb, hml, hown, hts⟩, hr, hlk, hK, hN, hA, rfl⟩ := C
  intro a H locs ls hE hP hD hS hl
  exact lv_istore_n hx hb d hi hl hn rfl (fun ls hl2 => k a H locs ls hE hP hD hS (lv_sub hl2 ks (ps_fl1 a hL)))
theorem X_istore (C : Cx nm X cc nL own Ts rty R0) {i : Nat} {x : Int32} (ks : List Nat) (d : decode cc pc = .ok (.istore i, 2)) (hn : i < nL) (hL : lv_pick ((i, Value.int x) :: L.filter (fl1 i)) ks = L') (k : XW nm X nL ce sl S σ (pc + 2) L' (st)) : XW nm X nL ce sl S σ (pc) L (.int x :: st) := by
  obtain ⟨p, l, e, R, s, m, args, below, meth, c, D, ac, E, A, Q⟩ := X
  obtain ⟨⟨hx, hb, hml, hown, hts⟩, hr, hlk, hK, hN, hA, rfl⟩ := C
  intro a H locs ls hE hP hD hS hl
  exact lv_istore hx hb d hl hn rfl (fun ls hl2 => k a H locs ls hE hP hD hS (lv_sub hl2 ks (ps_fl1 a hL)))
theorem X_lstore_n (C : Cx nm X cc nL own Ts rty R0) {i : Nat} {x : Int64} {k0 : Fin 4} (ks : List Nat) (d : decode cc pc = .ok (.lstore_n k0, 1)) (hi : (k0 : Nat) = i) (hn : i + 1 < nL) (hL : lv_pick ((i, Value.long x) :: L.filter (fl2 i)) ks = L') (k : XW nm X nL ce sl S σ (pc + 1) L' (st)) : XW nm X nL ce sl S σ (pc) L (.long x :: st) := by
  obtain ⟨p, l, e, R, s, m, args, below, meth, c, D, ac, E, A, Q⟩ := X
  obtain ⟨⟨hx, hb, hml, hown, hts⟩, hr, hlk, hK, hN, hA, rfl⟩ := C
  intro a H locs ls hE hP hD hS hl
  exact lv_lstore_n hx hb d hi hl hn rfl (fun ls hl2 => k a H locs ls hE hP hD hS (lv_sub hl2 ks (ps_fl2 a hL)))
theorem X_lstore (C : Cx nm X cc nL own Ts rty R0) {i : Nat} {x : Int64} (ks : List Nat) (d : decode cc pc = .ok (.lstore i, 2)) (hn : i + 1 < nL) (hL : lv_pick ((i, Value.long x) :: L.filter (fl2 i)) ks = L') (k : XW nm X nL ce sl S σ (pc + 2) L' (st)) : XW nm X nL ce sl S σ (pc) L (.long x :: st) := by
  obtain ⟨p, l, e, R, s, m, args, below, meth, c, D, ac, E, A, Q⟩ := X
  obtain ⟨⟨hx, hb, hml, hown, hts⟩, hr, hlk, hK, hN, hA, rfl⟩ := C
  intro a H locs ls hE hP hD hS hl
  exact lv_lstore hx hb d hl hn rfl (fun ls hl2 => k a H locs ls hE hP hD hS (lv_sub hl2 ks (ps_fl2 a hL)))
theorem X_astore_n (C : Cx nm X cc nL own Ts rty R0) {i : Nat} {x : Nat} {k0 : Fin 4} (ks : List Nat) (d : decode cc pc = .ok (.astore_n k0, 1)) (hi : (k0 : Nat) = i) (hn : i < nL) (hL : lv_pick ((i, Value.ref x) :: L.filter (fl1 i)) ks = L') (k : XW nm X nL ce sl S σ (pc + 1) L' (st)) : XW nm X nL ce sl S σ (pc) L (.ref x :: st) := by
  obtain ⟨p, l, e, R, s, m, args, below, meth, c, D, ac, E, A, Q⟩ := X
  obtain ⟨⟨hx, hb, hml, hown, hts⟩, hr, hlk, hK, hN, hA, rfl⟩ := C
  intro a H locs ls hE hP hD hS hl
  exact lv_astore_n (x := a x) hx hb d hi hl hn rfl (fun ls hl2 => k a H locs ls hE hP hD hS (lv_sub hl2 ks (ps_fl1 a hL)))
theorem X_astore (C : Cx nm X cc nL own Ts rty R0) {i : Nat} {x : Nat} (ks : List Nat) (d : decode cc pc = .ok (.astore i, 2)) (hn : i < nL) (hL : lv_pick ((i, Value.ref x) :: L.filter (fl1 i)) ks = L') (k : XW nm X nL ce sl S σ (pc + 2) L' (st)) : XW nm X nL ce sl S σ (pc) L (.ref x :: st) := by
  obtain ⟨p, l, e, R, s, m, args, below, meth, c, D, ac, E, A, Q⟩ := X
  obtain ⟨⟨hx, hb, hml, hown, hts⟩, hr, hlk, hK, hN, hA, rfl⟩ := C
  intro a H locs ls hE hP hD hS hl
  exact lv_astore (x := a x) hx hb d hl hn rfl (fun ls hl2 => k a H locs ls hE hP hD hS (lv_sub hl2 ks (ps_fl1 a hL)))
theorem X_iinc (C : Cx nm X cc nL own Ts rty R0) {i : Nat} {x v : Int32} {n : Int} (kp : Nat) (ks : List Nat) (d : decode cc pc = .ok (.iinc i n, 3)) (hk : L[kp]? = some (i, .int x)) (hv : Int32.ofInt n = v) (hn : i < nL) (hL : lv_pick ((i, Value.int (x + v)) :: L.filter (fl1 i)) ks = L') (k : XW nm X nL ce sl S σ (pc + 3) L' (st)) : XW nm X nL ce sl S σ (pc) L (st) := by
  obtain ⟨p, l, e, R, s, m, args, below, meth, c, D, ac, E, A, Q⟩ := X
  obtain ⟨⟨hx, hb, hml, hown, hts⟩, hr, hlk, hK, hN, hA, rfl⟩ := C
  intro a H locs ls hE hP hD hS hl
  subst hv
  exact lv_iinc (k := kp) hx hb d hl (by rw [List.getElem?_map, hk]; rfl) rfl hn rfl (fun ls hl2 => k a H locs ls hE hP hD hS (lv_sub hl2 ks (ps_fl1 a hL)))
theorem X_iadd (C : Cx nm X cc nL own Ts rty R0) {x y : Int32} (d : decode cc pc = .ok (.iadd, 1)) (k : XW nm X nL ce sl S σ (pc + 1) L (.int (x + y) :: st)) : XW nm X nL ce sl S σ (pc) L (.int y :: .int x :: st) := by
  obtain ⟨p, l, e, R, s, m, args, below, meth, c, D, ac, E, A, Q⟩ := X
  obtain ⟨⟨hx, hb, hml, hown, hts⟩, hr, hlk, hK, hN, hA, rfl⟩ := C
  intro a H locs ls hE hP hD hS hl
  exact lv_iadd hx hb d (k a H locs ls hE hP hD hS hl)
theorem X_isub (C : Cx nm X cc nL own Ts rty R0) {x y : Int32} (d : decode cc pc = .ok (.isub, 1)) (k : XW nm X nL ce sl S σ (pc + 1) L (.int (x - y) :: st)) : XW nm X nL ce sl S σ (pc) L (.int y :: .int x :: st) := by
  obtain ⟨p, l, e, R, s, m, args, below, meth, c, D, ac, E, A, Q⟩ := X
  obtain ⟨⟨hx, hb, hml, hown, hts⟩, hr, hlk, hK, hN, hA, rfl⟩ := C
  intro a H locs ls hE hP hD hS hl
  exact lv_isub hx hb d (k a H locs ls hE hP hD hS hl)
theorem X_imul (C : Cx nm X cc nL own Ts rty R0) {x y : Int32} (d : decode cc pc = .ok (.imul, 1)) (k : XW nm X nL ce sl S σ (pc + 1) L (.int (x * y) :: st)) : XW nm X nL ce sl S σ (pc) L (.int y :: .int x :: st) := by
  obtain ⟨p, l, e, R, s, m, args, below, meth, c, D, ac, E, A, Q⟩ := X
  obtain ⟨⟨hx, hb, hml, hown, hts⟩, hr, hlk, hK, hN, hA, rfl⟩ := C
  intro a H locs ls hE hP hD hS hl
  exact lv_imul hx hb d (k a H locs ls hE hP hD hS hl)
theorem X_iand (C : Cx nm X cc nL own Ts rty R0) {x y : Int32} (d : decode cc pc = .ok (.iand, 1)) (k : XW nm X nL ce sl S σ (pc + 1) L (.int (x &&& y) :: st)) : XW nm X nL ce sl S σ (pc) L (.int y :: .int x :: st) := by
  obtain ⟨p, l, e, R, s, m, args, below, meth, c, D, ac, E, A, Q⟩ := X
  obtain ⟨⟨hx, hb, hml, hown, hts⟩, hr, hlk, hK, hN, hA, rfl⟩ := C
  intro a H locs ls hE hP hD hS hl
  exact lv_iand hx hb d (k a H locs ls hE hP hD hS hl)
theorem X_ior (C : Cx nm X cc nL own Ts rty R0) {x y : Int32} (d : decode cc pc = .ok (.ior, 1)) (k : XW nm X nL ce sl S σ (pc + 1) L (.int (x ||| y) :: st)) : XW nm X nL ce sl S σ (pc) L (.int y :: .int x :: st) := by
  obtain ⟨p, l, e, R, s, m, args, below, meth, c, D, ac, E, A, Q⟩ := X
  obtain ⟨⟨hx, hb, hml, hown, hts⟩, hr, hlk, hK, hN, hA, rfl⟩ := C
  intro a H locs ls hE hP hD hS hl
  exact lv_ior hx hb d (k a H locs ls hE hP hD hS hl)
theorem X_ishl (C : Cx nm X cc nL own Ts rty R0) {x y : Int32} (d : decode cc pc = .ok (.ishl, 1)) (k : XW nm X nL ce sl S σ (pc + 1) L (.int (x <<< (y &&& 31)) :: st)) : XW nm X nL ce sl S σ (pc) L (.int y :: .int x :: st) := by
  obtain ⟨p, l, e, R, s, m, args, below, meth, c, D, ac, E, A, Q⟩ := X
  obtain ⟨⟨hx, hb, hml, hown, hts⟩, hr, hlk, hK, hN, hA, rfl⟩ := C
  intro a H locs ls hE hP hD hS hl
  exact lv_ishl hx hb d (k a H locs ls hE hP hD hS hl)
theorem X_ishr (C : Cx nm X cc nL own Ts rty R0) {x y : Int32} (d : decode cc pc = .ok (.ishr, 1)) (k : XW nm X nL ce sl S σ (pc + 1) L (.int (x >>> (y &&& 31)) :: st)) : XW nm X nL ce sl S σ (pc) L (.int y :: .int x :: st) := by
  obtain ⟨p, l, e, R, s, m, args, below, meth, c, D, ac, E, A, Q⟩ := X
  obtain ⟨⟨hx, hb, hml, hown, hts⟩, hr, hlk, hK, hN, hA, rfl⟩ := C
  intro a H locs ls hE hP hD hS hl
  exact lv_ishr hx hb d (k a H locs ls hE hP hD hS hl)
theorem X_idiv (C : Cx nm X cc nL own Ts rty R0) {x y : Int32} {f : Option β} (d : decode cc pc = .ok (.idiv, 1)) (hf : gd (!decide (y = 0)) f = some out) (k : f = some out → XW nm X nL ce sl S σ (pc + 1) L (.int (x / y) :: st)) : XW nm X nL ce sl S σ (pc) L (.int y :: .int x :: st) := by
  obtain ⟨p, l, e, R, s, m, args, below, meth, c, D, ac, E, A, Q⟩ := X
  obtain ⟨⟨hx, hb, hml, hown, hts⟩, hr, hlk, hK, hN, hA, rfl⟩ := C
  intro a H locs ls hE hP hD hS hl
  have hg := gd_some hf
  exact lv_idiv hx hb d (by simpa using hg.1) (k hg.2 a H locs ls hE hP hD hS hl)
theorem X_irem (C : Cx nm X cc nL own Ts rty R0) {x y : Int32} {f : Option β} (d : decode cc pc = .ok (.irem, 1)) (hf : gd (!decide (y = 0)) f = some out) (k : f = some out → XW nm X nL ce sl S σ (pc + 1) L (.int (x - x / y * y) :: st)) : XW nm X nL ce sl S σ (pc) L (.int y :: .int x :: st) := by
  obtain ⟨p, l, e, R, s, m, args, below, meth, c, D, ac, E, A, Q⟩ := X
  obtain ⟨⟨hx, hb, hml, hown, hts⟩, hr, hlk, hK, hN, hA, rfl⟩ := C
  intro a H locs ls hE hP hD hS hl
  have hg := gd_some hf
  exact lv_irem hx hb d (by simpa using hg.1) (k hg.2 a H locs ls hE hP hD hS hl)
theorem X_ineg (C : Cx nm X cc nL own Ts rty R0) {x : Int32} (d : decode cc pc = .ok (.ineg, 1)) (k : XW nm X nL ce sl S σ (pc + 1) L (.int (0 - x) :: st)) : XW nm X nL ce sl S σ (pc) L (.int x :: st) := by
  obtain ⟨p, l, e, R, s, m, args, below, meth, c, D, ac, E, A, Q⟩ := X
  obtain ⟨⟨hx, hb, hml, hown, hts⟩, hr, hlk, hK, hN, hA, rfl⟩ := C
  intro a H locs ls hE hP hD hS hl
  exact lv_ineg hx hb d (k a H locs ls hE hP hD hS hl)
theorem X_ladd (C : Cx nm X cc nL own Ts rty R0) {x y : Int64} (d : decode cc pc = .ok (.ladd, 1)) (k : XW nm X nL ce sl S σ (pc + 1) L (.long (x + y) :: st)) : XW nm X nL ce sl S σ (pc) L (.long y :: .long x :: st) := by
  obtain ⟨p, l, e, R, s, m, args, below, meth, c, D, ac, E, A, Q⟩ := X
  obtain ⟨⟨hx, hb, hml, hown, hts⟩, hr, hlk, hK, hN, hA, rfl⟩ := C
  intro a H locs ls hE hP hD hS hl
  exact lv_ladd hx hb d (k a H locs ls hE hP hD hS hl)
theorem X_lsub (C : Cx nm X cc nL own Ts rty R0) {x y : Int64} (d : decode cc pc = .ok (.lsub, 1)) (k : XW nm X nL ce sl S σ (pc + 1) L (.long (x - y) :: st)) : XW nm X nL ce sl S σ (pc) L (.long y :: .long x :: st) := by
  obtain ⟨p, l, e, R, s, m, args, below, meth, c, D, ac, E, A, Q⟩ := X
  obtain ⟨⟨hx, hb, hml, hown, hts⟩, hr, hlk, hK, hN, hA, rfl⟩ := C
  intro a H locs ls hE hP hD hS hl
  exact lv_lsub hx hb d (k a H locs ls hE hP hD hS hl)
theorem X_lmul (C : Cx nm X cc nL own Ts rty R0) {x y : Int64} (d : decode cc pc = .ok (.lmul, 1)) (k : XW nm X nL ce sl S σ (pc + 1) L (.long (x * y) :: st)) : XW nm X nL ce sl S σ (pc) L (.long y :: .long x :: st) := by
  obtain ⟨p, l, e, R, s, m, args, below, meth, c, D, ac, E, A, Q⟩ := X
  obtain ⟨⟨hx, hb, hml, hown, hts⟩, hr, hlk, hK, hN, hA, rfl⟩ := C
  intro a H locs ls hE hP hD hS hl
  exact lv_lmul hx hb d (k a H locs ls hE hP hD hS hl)
theorem X_i2l (C : Cx nm X cc nL own Ts rty R0) {x : Int32} (d : decode cc pc = .ok (.i2l, 1)) (k : XW nm X nL ce sl S σ (pc + 1) L (.long x.toInt64 :: st)) : XW nm X nL ce sl S σ (pc) L (.int x :: st) := by
  obtain ⟨p, l, e, R, s, m, args, below, meth, c, D, ac, E, A, Q⟩ := X
  obtain ⟨⟨hx, hb, hml, hown, hts⟩, hr, hlk, hK, hN, hA, rfl⟩ := C
  intro a H locs ls hE hP hD hS hl
  exact lv_i2l hx hb d rfl (k a H locs ls hE hP hD hS hl)
theorem X_lcmp (C : Cx nm X cc nL own Ts rty R0) {x y : Int64} (d : decode cc pc = .ok (.lcmp, 1)) (k : XW nm X nL ce sl S σ (pc + 1) L (.int (lg_cmp x y) :: st)) : XW nm X nL ce sl S σ (pc) L (.long y :: .long x :: st) := by
  obtain ⟨p, l, e, R, s, m, args, below, meth, c, D, ac, E, A, Q⟩ := X
  obtain ⟨⟨hx, hb, hml, hown, hts⟩, hr, hlk, hK, hN, hA, rfl⟩ := C
  intro a H locs ls hE hP hD hS hl
  exact W.lcmp hx hb d (k a H locs ls hE hP hD hS hl)
theorem X_dup (C : Cx nm X cc nL own Ts rty R0) {v : Value} (d : decode cc pc = .ok (.dup, 1)) (h1 : v.category = 1) (k : XW nm X nL ce sl S σ (pc + 1) L (v :: v :: st)) : XW nm X nL ce sl S σ (pc) L (v :: st) := by
  obtain ⟨p, l, e, R, s, m, args, below, meth, c, D, ac, E, A, Q⟩ := X
  obtain ⟨⟨hx, hb, hml, hown, hts⟩, hr, hlk, hK, hN, hA, rfl⟩ := C
  intro a H locs ls hE hP hD hS hl
  exact lv_dup hx hb d ((cv_cat a _).trans h1) (k a H locs ls hE hP hD hS hl)
theorem X_pop (C : Cx nm X cc nL own Ts rty R0) {v : Value} (d : decode cc pc = .ok (.pop, 1)) (h1 : v.category = 1) (k : XW nm X nL ce sl S σ (pc + 1) L (st)) : XW nm X nL ce sl S σ (pc) L (v :: st) := by
  obtain ⟨p, l, e, R, s, m, args, below, meth, c, D, ac, E, A, Q⟩ := X
  obtain ⟨⟨hx, hb, hml, hown, hts⟩, hr, hlk, hK, hN, hA, rfl⟩ := C
  intro a H locs ls hE hP hD hS hl
  exact lv_pop hx hb d ((cv_cat a _).trans h1) (k a H locs ls hE hP hD hS hl)
theorem X_dup_x1 (C : Cx nm X cc nL own Ts rty R0) {v u : Value} (d : decode cc pc = .ok (.dup_x1, 1)) (h1 : v.category = 1) (h2 : u.category = 1) (k : XW nm X nL ce sl S σ (pc + 1) L (v :: u :: v :: st)) : XW nm X nL ce sl S σ (pc) L (v :: u :: st) := by
  obtain ⟨p, l, e, R, s, m, args, below, meth, c, D, ac, E, A, Q⟩ := X
  obtain ⟨⟨hx, hb, hml, hown, hts⟩, hr, hlk, hK, hN, hA, rfl⟩ := C
  intro a H locs ls hE hP hD hS hl
  exact lv_dup_x1 hx hb d ((cv_cat a _).trans h1) ((cv_cat a _).trans h2) (k a H locs ls hE hP hD hS hl)
theorem X_dup2 (C : Cx nm X cc nL own Ts rty R0) {v u : Value} (d : decode cc pc = .ok (.dup2, 1)) (h1 : v.category = 1) (h2 : u.category = 1) (k : XW nm X nL ce sl S σ (pc + 1) L (v :: u :: v :: u :: st)) : XW nm X nL ce sl S σ (pc) L (v :: u :: st) := by
  obtain ⟨p, l, e, R, s, m, args, below, meth, c, D, ac, E, A, Q⟩ := X
  obtain ⟨⟨hx, hb, hml, hown, hts⟩, hr, hlk, hK, hN, hA, rfl⟩ := C
  intro a H locs ls hE hP hD hS hl
  exact lv_dup2_11 hx hb d ((cv_cat a _).trans h1) ((cv_cat a _).trans h2) (k a H locs ls hE hP hD hS hl)
theorem X_if_eq (C : Cx nm X cc nL own Ts rty R0) {x : Int32} {off : Int} {tgt : Nat} {f g : Option β} (d : decode cc pc = .ok (.ifCond .eq off, 3)) (ht : (pc : Int) + off = (tgt : Int)) (hf : (if x = 0 then f else g) = some out) (kt : f = some out → XW nm X nL ce sl S σ (tgt) L (st)) (kf : g = some out → XW nm X nL ce sl S σ (pc + 3) L (st)) : XW nm X nL ce sl S σ (pc) L (.int x :: st) := by
  obtain ⟨p, l, e, R, s, m, args, below, meth, c, D, ac, E, A, Q⟩ := X
  obtain ⟨⟨hx, hb, hml, hown, hts⟩, hr, hlk, hK, hN, hA, rfl⟩ := C
  intro a H locs ls hE hP hD hS hl
  exact lv_if_eq hx hb d ht (fun hc => kt (by rw [if_pos hc] at hf; exact hf) a H locs ls hE hP hD hS hl) (fun hc => kf (by rw [if_neg hc] at hf; exact hf) a H locs ls hE hP hD hS hl)
theorem X_icmp_eq (C : Cx nm X cc nL own Ts rty R0) {x y : Int32} {off : Int} {tgt : Nat} {f g : Option β} (d : decode cc pc = .ok (.if_icmp .eq off, 3)) (ht : (pc : Int) + off = (tgt : Int)) (hf : (if x = y then f else g) = some out) (kt : f = some out → XW nm X nL ce sl S σ (tgt) L (st)) (kf : g = some out → XW nm X nL ce sl S σ (pc + 3) L (st)) : XW nm X nL ce sl S σ (pc) L (.int y :: .int x :: st) := by
  obtain ⟨p, l, e, R, s, m, args, below, meth, c, D, ac, E, A, Q⟩ := X
  obtain ⟨⟨hx, hb, hml, hown, hts⟩, hr, hlk, hK, hN, hA, rfl⟩ := C
  intro a H locs ls hE hP hD hS hl
  exact lv_icmp_eq hx hb d ht (fun hc => kt (by rw [if_pos hc] at hf; exact hf) a H locs ls hE hP hD hS hl) (fun hc => kf (by rw [if_neg hc] at hf; exact hf) a H locs ls hE hP hD hS hl)
theorem X_if_ne (C : Cx nm X cc nL own Ts rty R0) {x : Int32} {off : Int} {tgt : Nat} {f g : Option β} (d : decode cc pc = .ok (.ifCond .ne off, 3)) (ht : (pc : Int) + off = (tgt : Int)) (hf : (if x = 0 then f else g) = some out) (kt : g = some out → XW nm X nL ce sl S σ (tgt) L (st)) (kf : f = some out → XW nm X nL ce sl S σ (pc + 3) L (st)) : XW nm X nL ce sl S σ (pc) L (.int x :: st) := by
  obtain ⟨p, l, e, R, s, m, args, below, meth, c, D, ac, E, A, Q⟩ := X
  obtain ⟨⟨hx, hb, hml, hown, hts⟩, hr, hlk, hK, hN, hA, rfl⟩ := C
  intro a H locs ls hE hP hD hS hl
  exact lv_if_ne hx hb d ht (fun hc => kt (by rw [if_neg hc] at hf; exact hf) a H locs ls hE hP hD hS hl) (fun hc => kf (by rw [if_pos hc] at hf; exact hf) a H locs ls hE hP hD hS hl)
theorem X_icmp_ne (C : Cx nm X cc nL own Ts rty R0) {x y : Int32} {off : Int} {tgt : Nat} {f g : Option β} (d : decode cc pc = .ok (.if_icmp .ne off, 3)) (ht : (pc : Int) + off = (tgt : Int)) (hf : (if x = y then f else g) = some out) (kt : g = some out → XW nm X nL ce sl S σ (tgt) L (st)) (kf : f = some out → XW nm X nL ce sl S σ (pc + 3) L (st)) : XW nm X nL ce sl S σ (pc) L (.int y :: .int x :: st) := by
  obtain ⟨p, l, e, R, s, m, args, below, meth, c, D, ac, E, A, Q⟩ := X
  obtain ⟨⟨hx, hb, hml, hown, hts⟩, hr, hlk, hK, hN, hA, rfl⟩ := C
  intro a H locs ls hE hP hD hS hl
  exact lv_icmp_ne hx hb d ht (fun hc => kt (by rw [if_neg hc] at hf; exact hf) a H locs ls hE hP hD hS hl) (fun hc => kf (by rw [if_pos hc] at hf; exact hf) a H locs ls hE hP hD hS hl)
theorem X_if_lt (C : Cx nm X cc nL own Ts rty R0) {x : Int32} {off : Int} {tgt : Nat} {f g : Option β} (d : decode cc pc = .ok (.ifCond .lt off, 3)) (ht : (pc : Int) + off = (tgt : Int)) (hf : (if x < 0 then f else g) = some out) (kt : f = some out → XW nm X nL ce sl S σ (tgt) L (st)) (kf : g = some out → XW nm X nL ce sl S σ (pc + 3) L (st)) : XW nm X nL ce sl S σ (pc) L (.int x :: st) := by
  obtain ⟨p, l, e, R, s, m, args, below, meth, c, D, ac, E, A, Q⟩ := X
  obtain ⟨⟨hx, hb, hml, hown, hts⟩, hr, hlk, hK, hN, hA, rfl⟩ := C
  intro a H locs ls hE hP hD hS hl
  exact lv_if_lt hx hb d ht (fun hc => kt (by rw [if_pos hc] at hf; exact hf) a H locs ls hE hP hD hS hl) (fun hc => kf (by rw [if_neg hc] at hf; exact hf) a H locs ls hE hP hD hS hl)
theorem X_icmp_lt (C : Cx nm X cc nL own Ts rty R0) {x y : Int32} {off : Int} {tgt : Nat} {f g : Option β} (d : decode cc pc = .ok (.if_icmp .lt off, 3)) (ht : (pc : Int) + off = (tgt : Int)) (hf : (if x < y then f else g) = some out) (kt : f = some out → XW nm X nL ce sl S σ (tgt) L (st)) (kf : g = some out → XW nm X nL ce sl S σ (pc + 3) L (st)) : XW nm X nL ce sl S σ (pc) L (.int y :: .int x :: st) := by
  obtain ⟨p, l, e, R, s, m, args, below, meth, c, D, ac, E, A, Q⟩ := X
  obtain ⟨⟨hx, hb, hml, hown, hts⟩, hr, hlk, hK, hN, hA, rfl⟩ := C
  intro a H locs ls hE hP hD hS hl
  exact lv_icmp_lt hx hb d ht (fun hc => kt (by rw [if_pos hc] at hf; exact hf) a H locs ls hE hP hD hS hl) (fun hc => kf (by rw [if_neg hc] at hf; exact hf) a H locs ls hE hP hD hS hl)
theorem X_if_ge (C : Cx nm X cc nL own Ts rty R0) {x : Int32} {off : Int} {tgt : Nat} {f g : Option β} (d : decode cc pc = .ok (.ifCond .ge off, 3)) (ht : (pc : Int) + off = (tgt : Int)) (hf : (if 0 ≤ x then f else g) = some out) (kt : f = some out → XW nm X nL ce sl S σ (tgt) L (st)) (kf : g = some out → XW nm X nL ce sl S σ (pc + 3) L (st)) : XW nm X nL ce sl S σ (pc) L (.int x :: st) := by
  obtain ⟨p, l, e, R, s, m, args, below, meth, c, D, ac, E, A, Q⟩ := X
  obtain ⟨⟨hx, hb, hml, hown, hts⟩, hr, hlk, hK, hN, hA, rfl⟩ := C
  intro a H locs ls hE hP hD hS hl
  exact lv_if_ge hx hb d ht (fun hc => kt (by rw [if_pos hc] at hf; exact hf) a H locs ls hE hP hD hS hl) (fun hc => kf (by rw [if_neg hc] at hf; exact hf) a H locs ls hE hP hD hS hl)
theorem X_icmp_ge (C : Cx nm X cc nL own Ts rty R0) {x y : Int32} {off : Int} {tgt : Nat} {f g : Option β} (d : decode cc pc = .ok (.if_icmp .ge off, 3)) (ht : (pc : Int) + off = (tgt : Int)) (hf : (if y ≤ x then f else g) = some out) (kt : f = some out → XW nm X nL ce sl S σ (tgt) L (st)) (kf : g = some out → XW nm X nL ce sl S σ (pc + 3) L (st)) : XW nm X nL ce sl S σ (pc) L (.int y :: .int x :: st) := by
  obtain ⟨p, l, e, R, s, m, args, below, meth, c, D, ac, E, A, Q⟩ := X
  obtain ⟨⟨hx, hb, hml, hown, hts⟩, hr, hlk, hK, hN, hA, rfl⟩ := C
  intro a H locs ls hE hP hD hS hl
  exact lv_icmp_ge hx hb d ht (fun hc => kt (by rw [if_pos hc] at hf; exact hf) a H locs ls hE hP hD hS hl) (fun hc => kf (by rw [if_neg hc] at hf; exact hf) a H locs ls hE hP hD hS hl)
theorem X_if_gt (C : Cx nm X cc nL own Ts rty R0) {x : Int32} {off : Int} {tgt : Nat} {f g : Option β} (d : decode cc pc = .ok (.ifCond .gt off, 3)) (ht : (pc : Int) + off = (tgt : Int)) (hf : (if 0 < x then f else g) = some out) (kt : f = some out → XW nm X nL ce sl S σ (tgt) L (st)) (kf : g = some out → XW nm X nL ce sl S σ (pc + 3) L (st)) : XW nm X nL ce sl S σ (pc) L (.int x :: st) := by
  obtain ⟨p, l, e, R, s, m, args, below, meth, c, D, ac, E, A, Q⟩ := X
  obtain ⟨⟨hx, hb, hml, hown, hts⟩, hr, hlk, hK, hN, hA, rfl⟩ := C
  intro a H locs ls hE hP hD hS hl
  exact lv_if_gt hx hb d ht (fun hc => kt (by rw [if_pos hc] at hf; exact hf) a H locs ls hE hP hD hS hl) (fun hc => kf (by rw [if_neg hc] at hf; exact hf) a H locs ls hE hP hD hS hl)
theorem X_icmp_gt (C : Cx nm X cc nL own Ts rty R0) {x y : Int32} {off : Int} {tgt : Nat} {f g : Option β} (d : decode cc pc = .ok (.if_icmp .gt off, 3)) (ht : (pc : Int) + off = (tgt : Int)) (hf : (if y < x then f else g) = some out) (kt : f = some out → XW nm X nL ce sl S σ (tgt) L (st)) (kf : g = some out → XW nm X nL ce sl S σ (pc + 3) L (st)) : XW nm X nL ce sl S σ (pc) L (.int y :: .int x :: st) := by
  obtain ⟨p, l, e, R, s, m, args, below, meth, c, D, ac, E, A, Q⟩ := X
  obtain ⟨⟨hx, hb, hml, hown, hts⟩, hr, hlk, hK, hN, hA, rfl⟩ := C
  intro a H locs ls hE hP hD hS hl
  exact lv_icmp_gt hx hb d ht (fun hc => kt (by rw [if_pos hc] at hf; exact hf) a H locs ls hE hP hD hS hl) (fun hc => kf (by rw [if_neg hc] at hf; exact hf) a H locs ls hE hP hD hS hl)
theorem X_if_le (C : Cx nm X cc nL own Ts rty R0) {x : Int32} {off : Int} {tgt : Nat} {f g : Option β} (d : decode cc pc = .ok (.ifCond .le off, 3)) (ht : (pc : Int) + off = (tgt : Int)) (hf : (if x ≤ 0 then f else g) = some out) (kt : f = some out → XW nm X nL ce sl S σ (tgt) L (st)) (kf : g = some out → XW nm X nL ce sl S σ (pc + 3) L (st)) : XW nm X nL ce sl S σ (pc) L (.int x :: st) := by
  obtain ⟨p, l, e, R, s, m, args, below, meth, c, D, ac, E, A, Q⟩ := X
  obtain ⟨⟨hx, hb, hml, hown, hts⟩, hr, hlk, hK, hN, hA, rfl⟩ := C
  intro a H locs ls hE hP hD hS hl
  exact lv_if_le hx hb d ht (fun hc => kt (by rw [if_pos hc] at hf; exact hf) a H locs ls hE hP hD hS hl) (fun hc => kf (by rw [if_neg hc] at hf; exact hf) a H locs ls hE hP hD hS hl)
theorem X_icmp_le (C : Cx nm X cc nL own Ts rty R0) {x y : Int32} {off : Int} {tgt : Nat} {f g : Option β} (d : decode cc pc = .ok (.if_icmp .le off, 3)) (ht : (pc : Int) + off = (tgt : Int)) (hf : (if x ≤ y then f else g) = some out) (kt : f = some out → XW nm X nL ce sl S σ (tgt) L (st)) (kf : g = some out → XW nm X nL ce sl S σ (pc + 3) L (st)) : XW nm X nL ce sl S σ (pc) L (.int y :: .int x :: st) := by
  obtain ⟨p, l, e, R, s, m, args, below, meth, c, D, ac, E, A, Q⟩ := X
  obtain ⟨⟨hx, hb, hml, hown, hts⟩, hr, hlk, hK, hN, hA, rfl⟩ := C
  intro a H locs ls hE hP hD hS hl
  exact lv_icmp_le hx hb d ht (fun hc => kt (by rw [if_pos hc] at hf; exact hf) a H locs ls hE hP hD hS hl) (fun hc => kf (by rw [if_neg hc] at hf; exact hf) a H locs ls hE hP hD hS hl)
theorem X_goto (C : Cx nm X cc nL own Ts rty R0) {off : Int} {tgt : Nat} (d : decode cc pc = .ok (.goto off, 3)) (ht : (pc : Int) + off = (tgt : Int)) (k : XW nm X nL ce sl S σ (tgt) L (st)) : XW nm X nL ce sl S σ (pc) L (st) := by
  obtain ⟨p, l, e, R, s, m, args, below, meth, c, D, ac, E, A, Q⟩ := X
  obtain ⟨⟨hx, hb, hml, hown, hts⟩, hr, hlk, hK, hN, hA, rfl⟩ := C
  intro a H locs ls hE hP hD hS hl
  exact lv_goto hx hb d ht (k a H locs ls hE hP hD hS hl)
theorem X_tin (C : Cx nm X cc nL own Ts rty R0) {dflt lo hi off : Int} {offs : Array Int} {len tgt : Nat} {x : Int32} (d : decode cc pc = .ok (.tableswitch dflt lo hi offs, len)) (h1 : ¬ x.toInt < lo) (h2 : ¬ hi < x.toInt) (ho : offs[(x.toInt - lo).toNat]? = some off) (ht : (pc : Int) + off = (tgt : Int)) (k : XW nm X nL ce sl S σ (tgt) L (st)) : XW nm X nL ce sl S σ (pc) L (.int x :: st) := by
  obtain ⟨p, l, e, R, s, m, args, below, meth, c, D, ac, E, A, Q⟩ := X
  obtain ⟨⟨hx, hb, hml, hown, hts⟩, hr, hlk, hK, hN, hA, rfl⟩ := C
  intro a H locs ls hE hP hD hS hl
  exact lv_tableIn hx hb d h1 h2 ho ht (k a H locs ls hE hP hD hS hl)
theorem X_tout (C : Cx nm X cc nL own Ts rty R0) {dflt lo hi : Int} {offs : Array Int} {len tgt : Nat} {x : Int32} (d : decode cc pc = .ok (.tableswitch dflt lo hi offs, len)) (h : x.toInt < lo ∨ hi < x.toInt) (ht : (pc : Int) + dflt = (tgt : Int)) (k : XW nm X nL ce sl S σ (tgt) L (st)) : XW nm X nL ce sl S σ (pc) L (.int x :: st) := by
  obtain ⟨p, l, e, R, s, m, args, below, meth, c, D, ac, E, A, Q⟩ := X
  obtain ⟨⟨hx, hb, hml, hown, hts⟩, hr, hlk, hK, hN, hA, rfl⟩ := C
  intro a H locs ls hE hP hD hS hl
  exact lv_tableOut hx hb d h ht (k a H locs ls hE hP hD hS hl)
theorem X_nm {x : Int32} {f : Int32 → Option β} (hf : lt_ x f = some out) (k : ∀ y : Int32, f y = some out → XW nm X nL ce sl S σ (pc) L (.int y :: st)) : XW nm X nL ce sl S σ (pc) L (.int x :: st) := k x hf
theorem X_nml {x : Int64} {f : Int64 → Option β} (hf : lt_ x f = some out) (k : ∀ y : Int64, f y = some out → XW nm X nL ce sl S σ (pc) L (.long y :: st)) : XW nm X nL ce sl S σ (pc) L (.long x :: st) := k x hf
theorem X_loc (ks : List Nat) (hL : lv_pick L ks = L') (k : XW nm X nL ce sl S σ (pc) L' (st)) : XW nm X nL ce sl S σ (pc) L (st) := by
  obtain ⟨p, l, e, R, s, m, args, below, meth, c, D, ac, E, A, Q⟩ := X
  intro a H locs ls hE hP hD hS hl
  exact k a H locs ls hE hP hD hS (lv_sub hl ks (by rw [pick_map, hL]))
theorem X_geti (C : Cx nm X cc nL own Ts rty R0) {q ci index : Nat} {fl : List (Option Nat)} {Cn : String} {T : u_T} {Nn : Nat} (k0 : Nat) (hq : S[q]? = some (.inl (ci, fl))) (hc : nm.1[ci]? = some (Cn, T, Nn)) (hin : ∀ w ∈ u_ws Cn T Nn, w ∈ Ts) (hk : k0 < Nn) (hw : Cond.fieldLink own index (T k0).1 (T k0).2.1 (T k0).2.2.1 ∈ Ts) (hfl : fl[k0]? = some none) (d : decode cc pc = .ok (.getfield index, 3)) (k : XW nm X nL ce sl S σ (pc + 3) L (.int (σ q k0) :: st)) : XW nm X nL ce sl S σ (pc) L (.ref q :: st) := by
  obtain ⟨p, l, e, R, s, m, args, below, meth, c, D, ac, E, A, Q⟩ := X
  obtain ⟨⟨hx, hb, hml, hown, hts⟩, hr, hlk, hK, hN, hA, rfl⟩ := C
  intro a H locs ls hE hP hD hS hl
  exact va_get hx hb hts hin hown hK hP q (Wd_get0 hq) hc k0 hk (hts _ hw) (fun _ h9 => h9) (by have h9 := flds_get a (σ q) fl 0 k0 _ hfl; rw [Nat.zero_add] at h9; exact h9) d (k a H locs ls hE hP hD hS hl)
theorem X_getr (C : Cx nm X cc nL own Ts rty R0) {r : Nat} {q ci index : Nat} {fl : List (Option Nat)} {Cn : String} {T : u_T} {Nn : Nat} (k0 : Nat) (hq : S[q]? = some (.inl (ci, fl))) (hc : nm.1[ci]? = some (Cn, T, Nn)) (hin : ∀ w ∈ u_ws Cn T Nn, w ∈ Ts) (hk : k0 < Nn) (hw : Cond.fieldLink own index (T k0).1 (T k0).2.1 (T k0).2.2.1 ∈ Ts) (hfl : fl[k0]? = some (some (r + 1))) (d : decode cc pc = .ok (.getfield index, 3)) (k : XW nm X nL ce sl S σ (pc + 3) L (.ref r :: st)) : XW nm X nL ce sl S σ (pc) L (.ref q :: st) := by
  obtain ⟨p, l, e, R, s, m, args, below, meth, c, D, ac, E, A, Q⟩ := X
  obtain ⟨⟨hx, hb, hml, hown, hts⟩, hr, hlk, hK, hN, hA, rfl⟩ := C
  intro a H locs ls hE hP hD hS hl
  exact va_get hx hb hts hin hown hK hP q (Wd_get0 hq) hc k0 hk (hts _ hw) (fun _ h9 => h9) (by have h9 := flds_get a (σ q) fl 0 k0 _ hfl; rw [Nat.zero_add] at h9; exact h9) d (k a H locs ls hE hP hD hS hl)
theorem X_getiN (C : Cx nm X cc nL own Ts rty R0) {q ci index : Nat} {fl : List (Option Nat)} {Cn : String} {T : u_T} {Nn : Nat} (k0 : Nat) (hq : S[q]? = some (.inl (ci, fl))) (hc : nm.1[ci]? = some (Cn, T, Nn)) (hin : ∀ w ∈ u_ws Cn T Nn, w ∈ Ts) (hk : k0 < Nn) {host : String} (hw : (own, index, (T k0).1, (T k0).2.1, (T k0).2.2.1, host) ∈ nm.2.1) (hfl : fl[k0]? = some none) (d : decode cc pc = .ok (.getfield index, 3)) (k : XW nm X nL ce sl S σ (pc + 3) L (.int (σ q k0) :: st)) : XW nm X nL ce sl S σ (pc) L (.ref q :: st) := by
  obtain ⟨p, l, e, R, s, m, args, below, meth, c, D, ac, E, A, Q⟩ := X
  obtain ⟨⟨hx, hb, hml, hown, hts⟩, hr, hlk, hK, hN, hA, rfl⟩ := C
  intro a H locs ls hE hP hD hS hl
  exact va_getN hx hb hts hin hown hK hP q (Wd_get0 hq) hc k0 hk (va_Nw.use rfl (hN.1 _ hw)) (fun _ h9 => h9) (by have h9 := flds_get a (σ q) fl 0 k0 _ hfl; rw [Nat.zero_add] at h9; exact h9) d (k a H locs ls hE hP hD hS hl)
theorem X_getrN (C : Cx nm X cc nL own Ts rty R0) {r : Nat} {q ci index : Nat} {fl : List (Option Nat)} {Cn : String} {T : u_T} {Nn : Nat} (k0 : Nat) (hq : S[q]? = some (.inl (ci, fl))) (hc : nm.1[ci]? = some (Cn, T, Nn)) (hin : ∀ w ∈ u_ws Cn T Nn, w ∈ Ts) (hk : k0 < Nn) {host : String} (hw : (own, index, (T k0).1, (T k0).2.1, (T k0).2.2.1, host) ∈ nm.2.1) (hfl : fl[k0]? = some (some (r + 1))) (d : decode cc pc = .ok (.getfield index, 3)) (k : XW nm X nL ce sl S σ (pc + 3) L (.ref r :: st)) : XW nm X nL ce sl S σ (pc) L (.ref q :: st) := by
  obtain ⟨p, l, e, R, s, m, args, below, meth, c, D, ac, E, A, Q⟩ := X
  obtain ⟨⟨hx, hb, hml, hown, hts⟩, hr, hlk, hK, hN, hA, rfl⟩ := C
  intro a H locs ls hE hP hD hS hl
  exact va_getN hx hb hts hin hown hK hP q (Wd_get0 hq) hc k0 hk (va_Nw.use rfl (hN.1 _ hw)) (fun _ h9 => h9) (by have h9 := flds_get a (σ q) fl 0 k0 _ hfl; rw [Nat.zero_add] at h9; exact h9) d (k a H locs ls hE hP hD hS hl)
theorem X_puti (C : Cx nm X cc nL own Ts rty R0) {v : Int32} {f : Sg → Option β} {q ci index : Nat} {fl : List (Option Nat)} {Cn : String} {T : u_T} {Nn : Nat} (k0 : Nat) (hq : S[q]? = some (.inl (ci, fl))) (hc : nm.1[ci]? = some (Cn, T, Nn)) (hin : ∀ w ∈ u_ws Cn T Nn, w ∈ Ts) (hk : k0 < Nn) (ty0 : Nat → FieldType) (hty : ∀ k, k < Nn → parseFieldDescriptor (T k).2.2.1 = some (ty0 k)) (hnm : ∀ a, a < Nn → ∀ b, b < Nn → a ≠ b → (T a).2.1 ≠ (T b).2.1) (hw : Cond.fieldLink own index (T k0).1 (T k0).2.1 (T k0).2.2.1 ∈ Ts) (hfin : (T k0).2.2.2 = false) (hd : parseFieldDescriptor (T k0).2.2.1 = some .int) (hfl : fl[k0]? = some none) (d : decode cc pc = .ok (.putfield index, 3)) (hf : lt_ (sgu σ q k0 v) f = some out) (k : ∀ σ1 : Sg, f σ1 = some out → XW nm X nL ce sl S σ1 (pc + 3) L (st)) : XW nm X nL ce sl S σ (pc) L (.int v :: .ref q :: st) := by
  obtain ⟨p, l, e, R, s, m, args, below, meth, c, D, ac, E, A, Q⟩ := X
  obtain ⟨⟨hx, hb, hml, hown, hts⟩, hr, hlk, hK, hN, hA, rfl⟩ := C
  intro a H locs ls hE hP hD hS hl
  exact va_put hx hb hts hin ty0 hty hnm hown hK hP hD hS q (Wd_get0 hq) hc k0 hk (hts _ hw) (fun _ h9 => h9) hfin hd rfl rfl (by rw [flds_len]; exact (List.getElem?_eq_some_iff.mp hfl).1) d (fun H1 locs1 hP hD hS => k _ hf a H1 locs1 ls hE (P_eq (Wd_puti (ac := ac) (a := a) (σ := σ) (v := v) hq hfl) hP) (D_eq (Wd_puti (ac := ac) (a := a) (σ := σ) (v := v) hq hfl) hD) hS hl)
theorem X_puti0 (C : Cx nm X cc nL own Ts rty R0) {v : Int32} {q ci index : Nat} {fl : List (Option Nat)} {Cn : String} {T : u_T} {Nn : Nat} (k0 : Nat) (hq : S[q]? = some (.inl (ci, fl))) (hc : nm.1[ci]? = some (Cn, T, Nn)) (hin : ∀ w ∈ u_ws Cn T Nn, w ∈ Ts) (hk : k0 < Nn) (ty0 : Nat → FieldType) (hty : ∀ k, k < Nn → parseFieldDescriptor (T k).2.2.1 = some (ty0 k)) (hnm : ∀ a, a < Nn → ∀ b, b < Nn → a ≠ b → (T a).2.1 ≠ (T b).2.1) (hw : Cond.fieldLink own index (T k0).1 (T k0).2.1 (T k0).2.2.1 ∈ Ts) (hfin : (T k0).2.2.2 = false) (hd : parseFieldDescriptor (T k0).2.2.1 = some .int) (hfl : fl[k0]? = some none) (d : decode cc pc = .ok (.putfield index, 3)) (k : XW nm X nL ce sl S (sgu σ q k0 v) (pc + 3) L (st)) : XW nm X nL ce sl S σ (pc) L (.int v :: .ref q :: st) := by
  obtain ⟨p, l, e, R, s, m, args, below, meth, c, D, ac, E, A, Q⟩ := X
  obtain ⟨⟨hx, hb, hml, hown, hts⟩, hr, hlk, hK, hN, hA, rfl⟩ := C
  intro a H locs ls hE hP hD hS hl
  exact va_put hx hb hts hin ty0 hty hnm hown hK hP hD hS q (Wd_get0 hq) hc k0 hk (hts _ hw) (fun _ h9 => h9) hfin hd rfl rfl (by rw [flds_len]; exact (List.getElem?_eq_some_iff.mp hfl).1) d (fun H1 locs1 hP hD hS => k a H1 locs1 ls hE (P_eq (Wd_puti (ac := ac) (a := a) (σ := σ) (v := v) hq hfl) hP) (D_eq (Wd_puti (ac := ac) (a := a) (σ := σ) (v := v) hq hfl) hD) hS hl)
theorem X_putz (C : Cx nm X cc nL own Ts rty R0) {v : Int32} {f : Sg → Option β} {q ci index : Nat} {fl : List (Option Nat)} {Cn : String} {T : u_T} {Nn : Nat} (k0 : Nat) (hq : S[q]? = some (.inl (ci, fl))) (hc : nm.1[ci]? = some (Cn, T, Nn)) (hin : ∀ w ∈ u_ws Cn T Nn, w ∈ Ts) (hk : k0 < Nn) (ty0 : Nat → FieldType) (hty : ∀ k, k < Nn → parseFieldDescriptor (T k).2.2.1 = some (ty0 k)) (hnm : ∀ a, a < Nn → ∀ b, b < Nn → a ≠ b → (T a).2.1 ≠ (T b).2.1) (hw : Cond.fieldLink own index (T k0).1 (T k0).2.1 (T k0).2.2.1 ∈ Ts) (hfin : (T k0).2.2.2 = false) (hd : parseFieldDescriptor (T k0).2.2.1 = some .boolean) (hfl : fl[k0]? = some none) (d : decode cc pc = .ok (.putfield index, 3)) (hf : gd (bz v) (lt_ (sgu σ q k0 v) f) = some out) (k : ∀ σ1 : Sg, f σ1 = some out → XW nm X nL ce sl S σ1 (pc + 3) L (st)) : XW nm X nL ce sl S σ (pc) L (.int v :: .ref q :: st) := by
  obtain ⟨p, l, e, R, s, m, args, below, meth, c, D, ac, E, A, Q⟩ := X
  obtain ⟨⟨hx, hb, hml, hown, hts⟩, hr, hlk, hK, hN, hA, rfl⟩ := C
  intro a H locs ls hE hP hD hS hl
  have hg := gd_some hf
  exact va_put hx hb hts hin ty0 hty hnm hown hK hP hD hS q (Wd_get0 hq) hc k0 hk (hts _ hw) (fun _ h9 => h9) hfin hd (bz_nar hg.1) (bz_fits hg.1) (by rw [flds_len]; exact (List.getElem?_eq_some_iff.mp hfl).1) d (fun H1 locs1 hP hD hS => k _ hg.2 a H1 locs1 ls hE (P_eq (Wd_puti (ac := ac) (a := a) (σ := σ) (v := v) hq hfl) hP) (D_eq (Wd_puti (ac := ac) (a := a) (σ := σ) (v := v) hq hfl) hD) hS hl)
theorem X_putz0 (C : Cx nm X cc nL own Ts rty R0) {v : Int32} {q ci index : Nat} {fl : List (Option Nat)} {Cn : String} {T : u_T} {Nn : Nat} (k0 : Nat) (hq : S[q]? = some (.inl (ci, fl))) (hc : nm.1[ci]? = some (Cn, T, Nn)) (hin : ∀ w ∈ u_ws Cn T Nn, w ∈ Ts) (hk : k0 < Nn) (ty0 : Nat → FieldType) (hty : ∀ k, k < Nn → parseFieldDescriptor (T k).2.2.1 = some (ty0 k)) (hnm : ∀ a, a < Nn → ∀ b, b < Nn → a ≠ b → (T a).2.1 ≠ (T b).2.1) (hw : Cond.fieldLink own index (T k0).1 (T k0).2.1 (T k0).2.2.1 ∈ Ts) (hfin : (T k0).2.2.2 = false) (hd : parseFieldDescriptor (T k0).2.2.1 = some .boolean) (hfl : fl[k0]? = some none) (hv : bz v = true) (d : decode cc pc = .ok (.putfield index, 3)) (k : XW nm X nL ce sl S (sgu σ q k0 v) (pc + 3) L (st)) : XW nm X nL ce sl S σ (pc) L (.int v :: .ref q :: st) := by
  obtain ⟨p, l, e, R, s, m, args, below, meth, c, D, ac, E, A, Q⟩ := X
  obtain ⟨⟨hx, hb, hml, hown, hts⟩, hr, hlk, hK, hN, hA, rfl⟩ := C
  intro a H locs ls hE hP hD hS hl
  exact va_put hx hb hts hin ty0 hty hnm hown hK hP hD hS q (Wd_get0 hq) hc k0 hk (hts _ hw) (fun _ h9 => h9) hfin hd (bz_nar hv) (bz_fits hv) (by rw [flds_len]; exact (List.getElem?_eq_some_iff.mp hfl).1) d (fun H1 locs1 hP hD hS => k a H1 locs1 ls hE (P_eq (Wd_puti (ac := ac) (a := a) (σ := σ) (v := v) hq hfl) hP) (D_eq (Wd_puti (ac := ac) (a := a) (σ := σ) (v := v) hq hfl) hD) hS hl)
theorem X_putiN (C : Cx nm X cc nL own Ts rty R0) {v : Int32} {f : Sg → Option β} {q ci index : Nat} {fl : List (Option Nat)} {Cn : String} {T : u_T} {Nn : Nat} (k0 : Nat) (hq : S[q]? = some (.inl (ci, fl))) (hc : nm.1[ci]? = some (Cn, T, Nn)) (hin : ∀ w ∈ u_ws Cn T Nn, w ∈ Ts) (hk : k0 < Nn) (ty0 : Nat → FieldType) (hty : ∀ k, k < Nn → parseFieldDescriptor (T k).2.2.1 = some (ty0 k)) (hnm : ∀ a, a < Nn → ∀ b, b < Nn → a ≠ b → (T a).2.1 ≠ (T b).2.1) {host : String} (hw : (own, index, (T k0).1, (T k0).2.1, (T k0).2.2.1, host) ∈ nm.2.1) (hfin : (T k0).2.2.2 = false) (hd : parseFieldDescriptor (T k0).2.2.1 = some .int) (hfl : fl[k0]? = some none) (d : decode cc pc = .ok (.putfield index, 3)) (hf : lt_ (sgu σ q k0 v) f = some out) (k : ∀ σ1 : Sg, f σ1 = some out → XW nm X nL ce sl S σ1 (pc + 3) L (st)) : XW nm X nL ce sl S σ (pc) L (.int v :: .ref q :: st) := by
  obtain ⟨p, l, e, R, s, m, args, below, meth, c, D, ac, E, A, Q⟩ := X
  obtain ⟨⟨hx, hb, hml, hown, hts⟩, hr, hlk, hK, hN, hA, rfl⟩ := C
  intro a H locs ls hE hP hD hS hl
  exact va_putN hx hb hts hin ty0 hty hnm hown hK hP hD hS q (Wd_get0 hq) hc k0 hk (va_Nw.use rfl (hN.1 _ hw)) (fun _ h9 => h9) hfin hd rfl rfl (by rw [flds_len]; exact (List.getElem?_eq_some_iff.mp hfl).1) d (fun H1 locs1 hP hD hS => k _ hf a H1 locs1 ls hE (P_eq (Wd_puti (ac := ac) (a := a) (σ := σ) (v := v) hq hfl) hP) (D_eq (Wd_puti (ac := ac) (a := a) (σ := σ) (v := v) hq hfl) hD) hS hl)
theorem X_putiN0 (C : Cx nm X cc nL own Ts rty R0) {v : Int32} {q ci index : Nat} {fl : List (Option Nat)} {Cn : String} {T : u_T} {Nn : Nat} (k0 : Nat) (hq : S[q]? = some (.inl (ci, fl))) (hc : nm.1[ci]? = some (Cn, T, Nn)) (hin : ∀ w ∈ u_ws Cn T Nn, w ∈ Ts) (hk : k0 < Nn) (ty0 : Nat → FieldType) (hty : ∀ k, k < Nn → parseFieldDescriptor (T k).2.2.1 = some (ty0 k)) (hnm : ∀ a, a < Nn → ∀ b, b < Nn → a ≠ b → (T a).2.1 ≠ (T b).2.1) {host : String} (hw : (own, index, (T k0).1, (T k0).2.1, (T k0).2.2.1, host) ∈ nm.2.1) (hfin : (T k0).2.2.2 = false) (hd : parseFieldDescriptor (T k0).2.2.1 = some .int) (hfl : fl[k0]? = some none) (d : decode cc pc = .ok (.putfield index, 3)) (k : XW nm X nL ce sl S (sgu σ q k0 v) (pc + 3) L (st)) : XW nm X nL ce sl S σ (pc) L (.int v :: .ref q :: st) := by
  obtain ⟨p, l, e, R, s, m, args, below, meth, c, D, ac, E, A, Q⟩ := X
  obtain ⟨⟨hx, hb, hml, hown, hts⟩, hr, hlk, hK, hN, hA, rfl⟩ := C
  intro a H locs ls hE hP hD hS hl
  exact va_putN hx hb hts hin ty0 hty hnm hown hK hP hD hS q (Wd_get0 hq) hc k0 hk (va_Nw.use rfl (hN.1 _ hw)) (fun _ h9 => h9) hfin hd rfl rfl (by rw [flds_len]; exact (List.getElem?_eq_some_iff.mp hfl).1) d (fun H1 locs1 hP hD hS => k a H1 locs1 ls hE (P_eq (Wd_puti (ac := ac) (a := a) (σ := σ) (v := v) hq hfl) hP) (D_eq (Wd_puti (ac := ac) (a := a) (σ := σ) (v := v) hq hfl) hD) hS hl)
theorem X_putzN (C : Cx nm X cc nL own Ts rty R0) {v : Int32} {f : Sg → Option β} {q ci index : Nat} {fl : List (Option Nat)} {Cn : String} {T : u_T} {Nn : Nat} (k0 : Nat) (hq : S[q]? = some (.inl (ci, fl))) (hc : nm.1[ci]? = some (Cn, T, Nn)) (hin : ∀ w ∈ u_ws Cn T Nn, w ∈ Ts) (hk : k0 < Nn) (ty0 : Nat → FieldType) (hty : ∀ k, k < Nn → parseFieldDescriptor (T k).2.2.1 = some (ty0 k)) (hnm : ∀ a, a < Nn → ∀ b, b < Nn → a ≠ b → (T a).2.1 ≠ (T b).2.1) {host : String} (hw : (own, index, (T k0).1, (T k0).2.1, (T k0).2.2.1, host) ∈ nm.2.1) (hfin : (T k0).2.2.2 = false) (hd : parseFieldDescriptor (T k0).2.2.1 = some .boolean) (hfl : fl[k0]? = some none) (d : decode cc pc = .ok (.putfield index, 3)) (hf : gd (bz v) (lt_ (sgu σ q k0 v) f) = some out) (k : ∀ σ1 : Sg, f σ1 = some out → XW nm X nL ce sl S σ1 (pc + 3) L (st)) : XW nm X nL ce sl S σ (pc) L (.int v :: .ref q :: st) := by
  obtain ⟨p, l, e, R, s, m, args, below, meth, c, D, ac, E, A, Q⟩ := X
  obtain ⟨⟨hx, hb, hml, hown, hts⟩, hr, hlk, hK, hN, hA, rfl⟩ := C
  intro a H locs ls hE hP hD hS hl
  have hg := gd_some hf
  exact va_putN hx hb hts hin ty0 hty hnm hown hK hP hD hS q (Wd_get0 hq) hc k0 hk (va_Nw.use rfl (hN.1 _ hw)) (fun _ h9 => h9) hfin hd (bz_nar hg.1) (bz_fits hg.1) (by rw [flds_len]; exact (List.getElem?_eq_some_iff.mp hfl).1) d (fun H1 locs1 hP hD hS => k _ hg.2 a H1 locs1 ls hE (P_eq (Wd_puti (ac := ac) (a := a) (σ := σ) (v := v) hq hfl) hP) (D_eq (Wd_puti (ac := ac) (a := a) (σ := σ) (v := v) hq hfl) hD) hS hl)
theorem X_putzN0 (C : Cx nm X cc nL own Ts rty R0) {v : Int32} {q ci index : Nat} {fl : List (Option Nat)} {Cn : String} {T : u_T} {Nn : Nat} (k0 : Nat) (hq : S[q]? = some (.inl (ci, fl))) (hc : nm.1[ci]? = some (Cn, T, Nn)) (hin : ∀ w ∈ u_ws Cn T Nn, w ∈ Ts) (hk : k0 < Nn) (ty0 : Nat → FieldType) (hty : ∀ k, k < Nn → parseFieldDescriptor (T k).2.2.1 = some (ty0 k)) (hnm : ∀ a, a < Nn → ∀ b, b < Nn → a ≠ b → (T a).2.1 ≠ (T b).2.1) {host : String} (hw : (own, index, (T k0).1, (T k0).2.1, (T k0).2.2.1, host) ∈ nm.2.1) (hfin : (T k0).2.2.2 = false) (hd : parseFieldDescriptor (T k0).2.2.1 = some .boolean) (hfl : fl[k0]? = some none) (hv : bz v = true) (d : decode cc pc = .ok (.putfield index, 3)) (k : XW nm X nL ce sl S (sgu σ q k0 v) (pc + 3) L (st)) : XW nm X nL ce sl S σ (pc) L (.int v :: .ref q :: st) := by
  obtain ⟨p, l, e, R, s, m, args, below, meth, c, D, ac, E, A, Q⟩ := X
  obtain ⟨⟨hx, hb, hml, hown, hts⟩, hr, hlk, hK, hN, hA, rfl⟩ := C
  intro a H locs ls hE hP hD hS hl
  exact va_putN hx hb hts hin ty0 hty hnm hown hK hP hD hS q (Wd_get0 hq) hc k0 hk (va_Nw.use rfl (hN.1 _ hw)) (fun _ h9 => h9) hfin hd (bz_nar hv) (bz_fits hv) (by rw [flds_len]; exact (List.getElem?_eq_some_iff.mp hfl).1) d (fun H1 locs1 hP hD hS => k a H1 locs1 ls hE (P_eq (Wd_puti (ac := ac) (a := a) (σ := σ) (v := v) hq hfl) hP) (D_eq (Wd_puti (ac := ac) (a := a) (σ := σ) (v := v) hq hfl) hD) hS hl)
theorem X_putiF (C : Cx nm X cc nL own Ts rty R0) {v : Int32} {f : Sg → Option β} {q ci index : Nat} {fl : List (Option Nat)} {Cn : String} {T : u_T} {Nn : Nat} (k0 : Nat) (hq : S[q]? = some (.inl (ci, fl))) (hc : nm.1[ci]? = some (Cn, T, Nn)) (hin : ∀ w ∈ u_ws Cn T Nn, w ∈ Ts) (hk : k0 < Nn) (ty0 : Nat → FieldType) (hty : ∀ k, k < Nn → parseFieldDescriptor (T k).2.2.1 = some (ty0 k)) (hnm : ∀ a, a < Nn → ∀ b, b < Nn → a ≠ b → (T a).2.1 ≠ (T b).2.1) (hw : Cond.fieldLink own index (T k0).1 (T k0).2.1 (T k0).2.2.1 ∈ Ts) (hfin : (T k0).2.2.2 = true) (I : Ix X) (hdc : (T k0).1 = own) (hd : parseFieldDescriptor (T k0).2.2.1 = some .int) (hfl : fl[k0]? = some none) (d : decode cc pc = .ok (.putfield index, 3)) (hf : lt_ (sgu σ q k0 v) f = some out) (k : ∀ σ1 : Sg, f σ1 = some out → XW nm X nL ce sl S σ1 (pc + 3) L (st)) : XW nm X nL ce sl S σ (pc) L (.int v :: .ref q :: st) := by
  obtain ⟨p, l, e, R, s, m, args, below, meth, c, D, ac, E, A, Q⟩ := X
  obtain ⟨⟨hx, hb, hml, hown, hts⟩, hr, hlk, hK, hN, hA, rfl⟩ := C
  intro a H locs ls hE hP hD hS hl
  exact va_putF hx hb hts hin ty0 hty hnm hown hK hP hD hS q (Wd_get0 hq) hc k0 hk (hts _ hw) (fun _ h9 => h9) hfin I hdc hd rfl rfl (by rw [flds_len]; exact (List.getElem?_eq_some_iff.mp hfl).1) d (fun H1 locs1 hP hD hS => k _ hf a H1 locs1 ls hE (P_eq (Wd_puti (ac := ac) (a := a) (σ := σ) (v := v) hq hfl) hP) (D_eq (Wd_puti (ac := ac) (a := a) (σ := σ) (v := v) hq hfl) hD) hS hl)
theorem X_putiF0 (C : Cx nm X cc nL own Ts rty R0) {v : Int32} {q ci index : Nat} {fl : List (Option Nat)} {Cn : String} {T : u_T} {Nn : Nat} (k0 : Nat) (hq : S[q]? = some (.inl (ci, fl))) (hc : nm.1[ci]? = some (Cn, T, Nn)) (hin : ∀ w ∈ u_ws Cn T Nn, w ∈ Ts) (hk : k0 < Nn) (ty0 : Nat → FieldType) (hty : ∀ k, k < Nn → parseFieldDescriptor (T k).2.2.1 = some (ty0 k)) (hnm : ∀ a, a < Nn → ∀ b, b < Nn → a ≠ b → (T a).2.1 ≠ (T b).2.1) (hw : Cond.fieldLink own index (T k0).1 (T k0).2.1 (T k0).2.2.1 ∈ Ts) (hfin : (T k0).2.2.2 = true) (I : Ix X) (hdc : (T k0).1 = own) (hd : parseFieldDescriptor (T k0).2.2.1 = some .int) (hfl : fl[k0]? = some none) (d : decode cc pc = .ok (.putfield index, 3)) (k : XW nm X nL ce sl S (sgu σ q k0 v) (pc + 3) L (st)) : XW nm X nL ce sl S σ (pc) L (.int v :: .ref q :: st) := by
  obtain ⟨p, l, e, R, s, m, args, below, meth, c, D, ac, E, A, Q⟩ := X
  obtain ⟨⟨hx, hb, hml, hown, hts⟩, hr, hlk, hK, hN, hA, rfl⟩ := C
  intro a H locs ls hE hP hD hS hl
  exact va_putF hx hb hts hin ty0 hty hnm hown hK hP hD hS q (Wd_get0 hq) hc k0 hk (hts _ hw) (fun _ h9 => h9) hfin I hdc hd rfl rfl (by rw [flds_len]; exact (List.getElem?_eq_some_iff.mp hfl).1) d (fun H1 locs1 hP hD hS => k a H1 locs1 ls hE (P_eq (Wd_puti (ac := ac) (a := a) (σ := σ) (v := v) hq hfl) hP) (D_eq (Wd_puti (ac := ac) (a := a) (σ := σ) (v := v) hq hfl) hD) hS hl)
theorem X_putr (C : Cx nm X cc nL own Ts rty R0) {r : Nat} {ty : FieldType} {x0 : Option Nat} {q ci index : Nat} {fl : List (Option Nat)} {Cn : String} {T : u_T} {Nn : Nat} (k0 : Nat) (hq : S[q]? = some (.inl (ci, fl))) (hc : nm.1[ci]? = some (Cn, T, Nn)) (hin : ∀ w ∈ u_ws Cn T Nn, w ∈ Ts) (hk : k0 < Nn) (ty0 : Nat → FieldType) (hty : ∀ k, k < Nn → parseFieldDescriptor (T k).2.2.1 = some (ty0 k)) (hnm : ∀ a, a < Nn → ∀ b, b < Nn → a ≠ b → (T a).2.1 ≠ (T b).2.1) (hw : Cond.fieldLink own index (T k0).1 (T k0).2.1 (T k0).2.2.1 ∈ Ts) (hfin : (T k0).2.2.2 = true) (I : Ix X) (hdc : (T k0).1 = own) (hd : parseFieldDescriptor (T k0).2.2.1 = some ty) (hrt : ∀ b : Nat, narrow ty (.ref b) = .ref b ∧ fits ty (.ref b) = true) (hfl : fl[k0]? = some x0) (d : decode cc pc = .ok (.putfield index, 3)) (k : XW nm X nL ce sl (S.set q (.inl (ci, fl.set k0 (some (r + 1))))) σ (pc + 3) L (st)) : XW nm X nL ce sl S σ (pc) L (.ref r :: .ref q :: st) := by
  obtain ⟨p, l, e, R, s, m, args, below, meth, c, D, ac, E, A, Q⟩ := X
  obtain ⟨⟨hx, hb, hml, hown, hts⟩, hr, hlk, hK, hN, hA, rfl⟩ := C
  intro a H locs ls hE hP hD hS hl
  exact va_putF hx hb hts hin ty0 hty hnm hown hK hP hD hS q (Wd_get0 hq) hc k0 hk (hts _ hw) (fun _ h9 => h9) hfin I hdc hd (hrt (a r)).1 (hrt (a r)).2 (by rw [flds_len]; exact (List.getElem?_eq_some_iff.mp hfl).1) d (fun H1 locs1 hP hD hS => k a H1 locs1 ls hE (P_eq (Wd_putr (ac := ac) (a := a) (σ := σ) (r := r)) hP) (D_eq (Wd_putr (ac := ac) (a := a) (σ := σ) (r := r)) hD) hS hl)
theorem X_iald (C : Cx nm X cc nL own Ts rty R0) {q n : Nat} {i : Int32} {f : Option β} (hq : S[q]? = some (.inr (0, n))) (d : decode cc pc = .ok (.iaload, 1)) (hf : gd (vi i n) f = some out) (k : f = some out → XW nm X nL ce sl S σ (pc + 1) L (.int (σ q i.toNatClampNeg) :: st)) : XW nm X nL ce sl S σ (pc) L (.int i :: .ref q :: st) := by
  obtain ⟨p, l, e, R, s, m, args, below, meth, c, D, ac, E, A, Q⟩ := X
  obtain ⟨⟨hx, hb, hml, hown, hts⟩, hr, hlk, hK, hN, hA, rfl⟩ := C
  intro a H locs ls hE hP hD hS hl
  have hg := gd_some hf
  exact va_iald hx hb hK hP q 0 (Wd_get0 hq) rfl (vi_in hg.1) d (k hg.2 a H locs ls hE hP hD hS hl)
theorem X_zald (C : Cx nm X cc nL own Ts rty R0) {q n : Nat} {i : Int32} {f : Option β} (hq : S[q]? = some (.inr (1, n))) (d : decode cc pc = .ok (.baload, 1)) (hf : gd (vi i n) f = some out) (k : f = some out → XW nm X nL ce sl S σ (pc + 1) L (.int (σ q i.toNatClampNeg) :: st)) : XW nm X nL ce sl S σ (pc) L (.int i :: .ref q :: st) := by
  obtain ⟨p, l, e, R, s, m, args, below, meth, c, D, ac, E, A, Q⟩ := X
  obtain ⟨⟨hx, hb, hml, hown, hts⟩, hr, hlk, hK, hN, hA, rfl⟩ := C
  intro a H locs ls hE hP hD hS hl
  have hg := gd_some hf
  exact va_zald hx hb hK hP q 1 (Wd_get0 hq) rfl (vi_in hg.1) d (k hg.2 a H locs ls hE hP hD hS hl)
theorem X_iast (C : Cx nm X cc nL own Ts rty R0) {q n : Nat} {i x : Int32} {f : Sg → Option β} (hq : S[q]? = some (.inr (0, n))) (d : decode cc pc = .ok (.iastore, 1)) (hf : gd (vi i n) (lt_ (sgu σ q i.toNatClampNeg x) f) = some out) (k : ∀ σ1 : Sg, f σ1 = some out → XW nm X nL ce sl S σ1 (pc + 1) L (st)) : XW nm X nL ce sl S σ (pc) L (.int x :: .int i :: .ref q :: st) := by
  obtain ⟨p, l, e, R, s, m, args, below, meth, c, D, ac, E, A, Q⟩ := X
  obtain ⟨⟨hx, hb, hml, hown, hts⟩, hr, hlk, hK, hN, hA, rfl⟩ := C
  intro a H locs ls hE hP hD hS hl
  have hg := gd_some hf
  exact va_iast hx hb hK hP hD hS q 0 (Wd_get0 hq) rfl (vi_in hg.1) d (fun H1 locs1 hP hD hS => k _ hg.2 a H1 locs1 ls hE (P_eq (Wd_puta hq) hP) (D_eq (Wd_puta hq) hD) hS hl)
theorem X_iast0 (C : Cx nm X cc nL own Ts rty R0) {q n : Nat} {i x : Int32} (j : Nat) (hq : S[q]? = some (.inr (0, n))) (hi : vi i n = true) (hj : i.toNatClampNeg = j) (d : decode cc pc = .ok (.iastore, 1)) (k : XW nm X nL ce sl S (sgu σ q j x) (pc + 1) L (st)) : XW nm X nL ce sl S σ (pc) L (.int x :: .int i :: .ref q :: st) := by
  obtain ⟨p, l, e, R, s, m, args, below, meth, c, D, ac, E, A, Q⟩ := X
  obtain ⟨⟨hx, hb, hml, hown, hts⟩, hr, hlk, hK, hN, hA, rfl⟩ := C
  intro a H locs ls hE hP hD hS hl
  subst hj
  exact va_iast hx hb hK hP hD hS q 0 (Wd_get0 hq) rfl (vi_in hi) d (fun H1 locs1 hP hD hS => k a H1 locs1 ls hE (P_eq (Wd_puta hq) hP) (D_eq (Wd_puta hq) hD) hS hl)
theorem X_zast (C : Cx nm X cc nL own Ts rty R0) {q n : Nat} {i x : Int32} {f : Sg → Option β} (hq : S[q]? = some (.inr (1, n))) (d : decode cc pc = .ok (.bastore, 1)) (hf : gd (vi i n) (lt_ (sgu σ q i.toNatClampNeg (vp_nar .boolean x)) f) = some out) (k : ∀ σ1 : Sg, f σ1 = some out → XW nm X nL ce sl S σ1 (pc + 1) L (st)) : XW nm X nL ce sl S σ (pc) L (.int x :: .int i :: .ref q :: st) := by
  obtain ⟨p, l, e, R, s, m, args, below, meth, c, D, ac, E, A, Q⟩ := X
  obtain ⟨⟨hx, hb, hml, hown, hts⟩, hr, hlk, hK, hN, hA, rfl⟩ := C
  intro a H locs ls hE hP hD hS hl
  have hg := gd_some hf
  exact va_zast hx hb hK hP hD hS q 1 (Wd_get0 hq) rfl (vi_in hg.1) d (fun H1 locs1 hP hD hS => k _ hg.2 a H1 locs1 ls hE (P_eq (Wd_puta hq) hP) (D_eq (Wd_puta hq) hD) hS hl)
theorem X_alen (C : Cx nm X cc nL own Ts rty R0) {q n z : Nat} {v : Int32} (hq : S[q]? = some (.inr (z, n))) (hz : z = 0) (hv : Int32.ofNat n = v) (d : decode cc pc = .ok (.arraylength, 1)) (k : XW nm X nL ce sl S σ (pc + 1) L (.int v :: st)) : XW nm X nL ce sl S σ (pc) L (.ref q :: st) := by
  obtain ⟨p, l, e, R, s, m, args, below, meth, c, D, ac, E, A, Q⟩ := X
  obtain ⟨⟨hx, hb, hml, hown, hts⟩, hr, hlk, hK, hN, hA, rfl⟩ := C
  intro a H locs ls hE hP hD hS hl
  subst hz
  exact va_alen hx hb hK hP q 0 (Wd_get0 hq) rfl hv d (k a H locs ls hE hP hD hS hl)
theorem X_mmax (C : Cx nm X cc nL own Ts rty R0) {x y : Int32} {index : Nat} (h1 : Cond.methodLink own index Lib.Math.max.name ∈ Ts) (h2 : Cond.static Lib.Math.max.name ∈ Ts) (h3 : Cond.initialized "java/lang/Math" ∈ Ts) (h4 : Cond.code Lib.Math.max.name Lib.Math.max.code 2 (some .int) ∈ Ts) (hR : 1 ≤ R0.frames ∧ (st.map fun v => v.category).sum + 13 ≤ R0.locals ∧ ce ≤ R0.cells ∧ sl ≤ R0.slots) (d : decode cc pc = .ok (.invokestatic index, 3)) (k : XW nm X nL ce sl S σ (pc + 3) L (.int (if x < y then y else x) :: st)) : XW nm X nL ce sl S σ (pc) L (.int y :: .int x :: st) := by
  obtain ⟨p, l, e, R, s, m, args, below, meth, c, D, ac, E, A, Q⟩ := X
  obtain ⟨⟨hx, hb, hml, hown, hts⟩, hr, hlk, hK, hN, hA, rfl⟩ := C
  intro a H locs ls hE hP hD hS hl
  exact va_mmax hx hb (hml.trans hl.1.symm) hown (hts _ h1) (hts _ h2) (hts _ h3) (hts _ h4) hR.1 (by rw [cat_sum]; exact hR.2.1) hR.2.2.1 hR.2.2.2 d (k a H locs ls hE hP hD hS hl)
theorem X_mmin (C : Cx nm X cc nL own Ts rty R0) {x y : Int32} {index : Nat} (h1 : Cond.methodLink own index Lib.Math.min.name ∈ Ts) (h2 : Cond.static Lib.Math.min.name ∈ Ts) (h3 : Cond.initialized "java/lang/Math" ∈ Ts) (h4 : Cond.code Lib.Math.min.name Lib.Math.min.code 2 (some .int) ∈ Ts) (hR : 1 ≤ R0.frames ∧ (st.map fun v => v.category).sum + 13 ≤ R0.locals ∧ ce ≤ R0.cells ∧ sl ≤ R0.slots) (d : decode cc pc = .ok (.invokestatic index, 3)) (k : XW nm X nL ce sl S σ (pc + 3) L (.int (if y < x then y else x) :: st)) : XW nm X nL ce sl S σ (pc) L (.int y :: .int x :: st) := by
  obtain ⟨p, l, e, R, s, m, args, below, meth, c, D, ac, E, A, Q⟩ := X
  obtain ⟨⟨hx, hb, hml, hown, hts⟩, hr, hlk, hK, hN, hA, rfl⟩ := C
  intro a H locs ls hE hP hD hS hl
  exact va_mmin hx hb (hml.trans hl.1.symm) hown (hts _ h1) (hts _ h2) (hts _ h3) (hts _ h4) hR.1 (by rw [cat_sum]; exact hR.2.1) hR.2.2.1 hR.2.2.2 d (k a H locs ls hE hP hD hS hl)
theorem X_iret (C : Cx nm X cc nL own Ts (some .int) R0) {v : Int32} {o : Int32 × Sg} (d : decode cc pc = .ok (.ireturn, 1)) (hf : some (v, σ) = some o) (Rr : Rx nm X ce sl (some (.int o.1)) S o.2) : XW nm X nL ce sl S σ (pc) L ([.int v]) := by
  cases hf
  obtain ⟨p, l, e, R, s, m, args, below, meth, c, D, ac, E, A, Q⟩ := X
  obtain ⟨⟨hx, hb, hml, hown, hts⟩, hr, hlk, hK, hN, hA, rfl⟩ := C
  intro a H locs ls hE hP hD hS hl
  subst Rr
  exact W.iret hx hb hr (fun t ht hW => ⟨rfl, ⟨a, hE, by rw [ht]; exact hP, hD⟩, hS.F ht⟩) hS.2.2 d hlk
theorem X_lret (C : Cx nm X cc nL own Ts (some .long) R0) {v : Int64} {o : Int64 × Sg} (d : decode cc pc = .ok (.lreturn, 1)) (hf : some (v, σ) = some o) (Rr : Rx nm X ce sl (some (.long o.1)) S o.2) : XW nm X nL ce sl S σ (pc) L ([.long v]) := by
  cases hf
  obtain ⟨p, l, e, R, s, m, args, below, meth, c, D, ac, E, A, Q⟩ := X
  obtain ⟨⟨hx, hb, hml, hown, hts⟩, hr, hlk, hK, hN, hA, rfl⟩ := C
  intro a H locs ls hE hP hD hS hl
  subst Rr
  exact W.lret hx hb hr (fun t ht hW => ⟨rfl, ⟨a, hE, by rw [ht]; exact hP, hD⟩, hS.F ht⟩) hS.2.2 d hlk
theorem X_zret (C : Cx nm X cc nL own Ts (some .boolean) R0) {v : Int32} {o : Int32 × Sg} (d : decode cc pc = .ok (.ireturn, 1)) (hf : gd (bz v) (some (v, σ)) = some o) (Rr : Rx nm X ce sl (some (.int o.1)) S o.2) : XW nm X nL ce sl S σ (pc) L ([.int v]) := by
  have hg := gd_some hf
  have hf := hg.2
  cases hf
  obtain ⟨p, l, e, R, s, m, args, below, meth, c, D, ac, E, A, Q⟩ := X
  obtain ⟨⟨hx, hb, hml, hown, hts⟩, hr, hlk, hK, hN, hA, rfl⟩ := C
  intro a H locs ls hE hP hD hS hl
  subst Rr
  exact W.zret hx hb hr (bz_nar hg.1) (fun t ht hW => ⟨rfl, ⟨a, hE, by rw [ht]; exact hP, hD⟩, hS.F ht⟩) hS.2.2 d hlk
theorem X_vret (C : Cx nm X cc nL own Ts none R0) {o : Sg} (d : decode cc pc = .ok (.return_, 1)) (hf : some σ = some o) (Rr : Rx nm X ce sl none S o) : XW nm X nL ce sl S σ (pc) L ([]) := by
  cases hf
  obtain ⟨p, l, e, R, s, m, args, below, meth, c, D, ac, E, A, Q⟩ := X
  obtain ⟨⟨hx, hb, hml, hown, hts⟩, hr, hlk, hK, hN, hA, rfl⟩ := C
  intro a H locs ls hE hP hD hS hl
  subst Rr
  exact W.vret hx hb hr (fun t ht hW => ⟨rfl, ⟨a, hE, by rw [ht]; exact hP, hD⟩, hS.F ht⟩) hS.2.2 d hlk
end XR
end

abbrev ws_X6_isFull : List Cond := Cond.code yX6_isFull cX6_isFull 1 (some .boolean) :: AW
abbrev rm_X6_isFull : Room := { frames := 0, cells := 0, slots := 0, locals := 0 }
def c_X6_isFull_0 (t n : Nat) (s : Sg) : Option (Int32 × Sg) :=
if (s t 3) < (s t 1) then
 gd (bz ((0:Int32))) (some ((0:Int32), s))
 else
 gd (bz ((1:Int32))) (some ((1:Int32), s))
set_option maxHeartbeats 4000000 in
set_option maxRecDepth 100000 in
theorem w_X6_isFull_0 {X : Ctx} {S : List Shp} {t n : Nat} (hT : S[t]? = some (.inl (6, [some (t + 2), none, none, none]))) (hU : S[t + 1]? = some (.inr (0, n))) {o : Int32 × Sg} (C : Cx NM X cX6_isFull 1 RX6 (ws_X6_isFull) (some .boolean) rm_X6_isFull) (Rr : Rx NM X 0 0 (some (.int o.1)) S o.2) (s : Sg) (hf : c_X6_isFull_0 t n s = some o) : XW NM X 1 0 0 S s 0 [(0, .ref t)] [] := by
  unfold c_X6_isFull_0 at hf
  refine X_aload_n C 0 dX6_isFull_0 rfl rfl ?_
  refine X_geti C 3 hT nc_6 inM_6 (by decide) (mc wd_0) rfl dX6_isFull_1 ?_
  refine X_aload_n C 0 dX6_isFull_4 rfl rfl ?_
  refine X_geti C 1 hT nc_6 inM_6 (by decide) (mc wd_1) rfl dX6_isFull_5 ?_
  refine X_icmp_lt (tgt := 15) C dX6_isFull_8 (by decide) hf (fun hf => ?_) (fun hf => ?_)
  · refine X_iconst (v := (0:Int32)) C dX6_isFull_15 (by decide) ?_
    exact X_zret C dX6_isFull_16 hf Rr
  · refine X_iconst (v := (1:Int32)) C dX6_isFull_11 (by decide) ?_
    refine X_goto (tgt := 16) C dX6_isFull_12 (by decide) ?_
    exact X_zret C dX6_isFull_16 hf Rr
def f_X6_isFull (t n : Nat) (s : Sg) : Option (Int32 × Sg) := c_X6_isFull_0 t n s
theorem k_X6_isFull {S : List Shp} {t n : Nat} (hT : S[t]? = some (.inl (6, [some (t + 2), none, none, none]))) (hU : S[t + 1]? = some (.inr (0, n))) (s : Sg) (o : Int32 × Sg) (hf : f_X6_isFull t n s = some o) : Ctr NM yX6_isFull (ws_X6_isFull) rm_X6_isFull S s [.ref t] (some (.int o.1)) o.2 :=
  Ctr.of (by decide) rfl (Nat.le_of_ble_eq_true rfl) (fun X C Rr => by show XW NM X 1 0 0 S s 0 [(0, .ref t)] []; exact w_X6_isFull_0 hT hU C Rr s hf)
abbrev ws_X6_add : List Cond := Cond.code yX6_add cX6_add 1 (some .int) :: AW
abbrev rm_X6_add : Room := { frames := 1, cells := 0, slots := 0, locals := 20 }
def c_X6_add_0 (t n : Nat) (s : Sg) : Option (Int32 × Sg) :=
bd (f_X6_isFull t n s) (fun r2 s1 => if r2 = 0 then
 lt_ (s1 t 3) (fun x3 => lt_ (sgu s1 t 3 (x3 + ((1:Int32)))) (fun s4 => some (x3, s4)))
 else
 some ((-1:Int32), s1))
set_option maxHeartbeats 4000000 in
set_option maxRecDepth 100000 in
theorem w_X6_add_0 {X : Ctx} {S : List Shp} {t n : Nat} (hT : S[t]? = some (.inl (6, [some (t + 2), none, none, none]))) (hU : S[t + 1]? = some (.inr (0, n))) {o : Int32 × Sg} (C : Cx NM X cX6_add 1 RX6 (ws_X6_add) (some .int) rm_X6_add) (Rr : Rx NM X 0 0 (some (.int o.1)) S o.2) (s : Sg) (hf : c_X6_add_0 t n s = some o) : XW NM X 1 0 0 S s 0 [(0, .ref t)] [] := by
  unfold c_X6_add_0 at hf
  refine X_aload_n C 0 dX6_add_0 rfl rfl ?_
  refine X_callVi (As := []) (rest := []) C aw_ok mcs lk_X6_31 hT nc_6 (by decide) rfl rfl (Nat.le_of_ble_eq_true rfl) dX6_add_1 hf (fun r s h => k_X6_isFull hT hU _ (r, s) h) (fun r2 s1 hf => ?_)
  refine X_if_eq (tgt := 9) C dX6_add_4 (by decide) hf (fun hf => ?_) (fun hf => ?_)
  · refine X_aload_n C 0 dX6_add_9 rfl rfl ?_
    refine X_dup C dX6_add_10 rfl ?_
    refine X_geti C 3 hT nc_6 inM_6 (by decide) (mc wd_0) rfl dX6_add_11 ?_
    refine X_nm hf (fun x3 hf => ?_)
    refine X_dup_x1 C dX6_add_14 rfl rfl ?_
    refine X_iconst (v := (1:Int32)) C dX6_add_15 (by decide) ?_
    refine X_iadd C dX6_add_16 ?_
    refine X_puti C 3 hT nc_6 inM_6 (by decide) tyX6 tyX6_ok nmX6 (mc wd_0) rfl (by decide +kernel) rfl dX6_add_17 hf (fun s4 hf => ?_)
    exact X_iret C dX6_add_20 hf Rr
  · refine X_iconst (v := (-1:Int32)) C dX6_add_7 (by decide) ?_
    exact X_iret C dX6_add_8 hf Rr
def f_X6_add (t n : Nat) (s : Sg) : Option (Int32 × Sg) := c_X6_add_0 t n s
theorem k_X6_add {S : List Shp} {t n : Nat} (hT : S[t]? = some (.inl (6, [some (t + 2), none, none, none]))) (hU : S[t + 1]? = some (.inr (0, n))) (s : Sg) (o : Int32 × Sg) (hf : f_X6_add t n s = some o) : Ctr NM yX6_add (ws_X6_add) rm_X6_add S s [.ref t] (some (.int o.1)) o.2 :=
  Ctr.of (by decide) rfl (Nat.le_of_ble_eq_true rfl) (fun X C Rr => by show XW NM X 1 0 0 S s 0 [(0, .ref t)] []; exact w_X6_add_0 hT hU C Rr s hf)
abbrev ws_X6_has : List Cond := Cond.code yX6_has cX6_has 3 (some .boolean) :: AW
abbrev rm_X6_has : Room := { frames := 0, cells := 0, slots := 0, locals := 0 }
def c_X6_has_0 (t n : Nat) (s : Sg) (v1 : Int32) (v2 : Int32) : Option (Int32 × Sg) :=
if v1 < 0 then
 gd (bz ((0:Int32))) (some ((0:Int32), s))
 else
 if (s t 1) ≤ v1 then
 gd (bz ((0:Int32))) (some ((0:Int32), s))
 else
 if v2 < 0 then
 gd (bz ((0:Int32))) (some ((0:Int32), s))
 else
 if (s t 2) ≤ v2 then
 gd (bz ((0:Int32))) (some ((0:Int32), s))
 else
 gd (bz ((1:Int32))) (some ((1:Int32), s))
set_option maxHeartbeats 4000000 in
set_option maxRecDepth 100000 in
theorem w_X6_has_0 {X : Ctx} {S : List Shp} {t n : Nat} (hT : S[t]? = some (.inl (6, [some (t + 2), none, none, none]))) (hU : S[t + 1]? = some (.inr (0, n))) {o : Int32 × Sg} (C : Cx NM X cX6_has 3 RX6 (ws_X6_has) (some .boolean) rm_X6_has) (Rr : Rx NM X 0 0 (some (.int o.1)) S o.2) (s : Sg) (v1 : Int32) (v2 : Int32) (hf : c_X6_has_0 t n s v1 v2 = some o) : XW NM X 3 0 0 S s 0 [(0, .ref t), (1, .int v1), (2, .int v2)] [] := by
  unfold c_X6_has_0 at hf
  refine X_iload_n C 1 dX6_has_0 rfl rfl ?_
  refine X_if_lt (tgt := 28) C dX6_has_1 (by decide) hf (fun hf => ?_) (fun hf => ?_)
  · refine X_iconst (v := (0:Int32)) C dX6_has_28 (by decide) ?_
    exact X_zret C dX6_has_29 hf Rr
  · refine X_iload_n C 1 dX6_has_4 rfl rfl ?_
    refine X_aload_n C 0 dX6_has_5 rfl rfl ?_
    refine X_geti C 1 hT nc_6 inM_6 (by decide) (mc wd_1) rfl dX6_has_6 ?_
    refine X_icmp_ge (tgt := 28) C dX6_has_9 (by decide) hf (fun hf => ?_) (fun hf => ?_)
    · refine X_iconst (v := (0:Int32)) C dX6_has_28 (by decide) ?_
      exact X_zret C dX6_has_29 hf Rr
    · refine X_iload_n C 2 dX6_has_12 rfl rfl ?_
      refine X_if_lt (tgt := 28) C dX6_has_13 (by decide) hf (fun hf => ?_) (fun hf => ?_)
      · refine X_iconst (v := (0:Int32)) C dX6_has_28 (by decide) ?_
        exact X_zret C dX6_has_29 hf Rr
      · refine X_iload_n C 2 dX6_has_16 rfl rfl ?_
        refine X_aload_n C 0 dX6_has_17 rfl rfl ?_
        refine X_geti C 2 hT nc_6 inM_6 (by decide) (mc wd_2) rfl dX6_has_18 ?_
        refine X_icmp_ge (tgt := 28) C dX6_has_21 (by decide) hf (fun hf => ?_) (fun hf => ?_)
        · refine X_iconst (v := (0:Int32)) C dX6_has_28 (by decide) ?_
          exact X_zret C dX6_has_29 hf Rr
        · refine X_iconst (v := (1:Int32)) C dX6_has_24 (by decide) ?_
          refine X_goto (tgt := 29) C dX6_has_25 (by decide) ?_
          exact X_zret C dX6_has_29 hf Rr
def f_X6_has (t n : Nat) (s : Sg) (v1 : Int32) (v2 : Int32) : Option (Int32 × Sg) := c_X6_has_0 t n s v1 v2
theorem k_X6_has {S : List Shp} {t n : Nat} (hT : S[t]? = some (.inl (6, [some (t + 2), none, none, none]))) (hU : S[t + 1]? = some (.inr (0, n))) (s : Sg) (v1 : Int32) (v2 : Int32) (o : Int32 × Sg) (hf : f_X6_has t n s v1 v2 = some o) : Ctr NM yX6_has (ws_X6_has) rm_X6_has S s [.ref t, .int v1, .int v2] (some (.int o.1)) o.2 :=
  Ctr.of (by decide) rfl (Nat.le_of_ble_eq_true rfl) (fun X C Rr => by show XW NM X 3 0 0 S s 0 [(0, .ref t), (1, .int v1), (2, .int v2)] []; exact w_X6_has_0 hT hU C Rr s v1 v2 hf)
abbrev ws_X6_get : List Cond := Cond.code yX6_get cX6_get 3 (some .int) :: AW
abbrev rm_X6_get : Room := { frames := 1, cells := 0, slots := 0, locals := 22 }
def c_X6_get_0 (t n : Nat) (s : Sg) (v1 : Int32) (v2 : Int32) : Option (Int32 × Sg) :=
bd (f_X6_has t n s v1 v2) (fun r2 s1 => if r2 = 0 then
 some ((-1:Int32), s1)
 else
 gd (vi ((v1 * (s1 t 2)) + v2) n) (some (s1 (t + 1) ((v1 * (s1 t 2)) + v2).toNatClampNeg, s1)))
set_option maxHeartbeats 4000000 in
set_option maxRecDepth 100000 in
theorem w_X6_get_0 {X : Ctx} {S : List Shp} {t n : Nat} (hT : S[t]? = some (.inl (6, [some (t + 2), none, none, none]))) (hU : S[t + 1]? = some (.inr (0, n))) {o : Int32 × Sg} (C : Cx NM X cX6_get 3 RX6 (ws_X6_get) (some .int) rm_X6_get) (Rr : Rx NM X 0 0 (some (.int o.1)) S o.2) (s : Sg) (v1 : Int32) (v2 : Int32) (hf : c_X6_get_0 t n s v1 v2 = some o) : XW NM X 3 0 0 S s 0 [(0, .ref t), (1, .int v1), (2, .int v2)] [] := by
  unfold c_X6_get_0 at hf
  refine X_aload_n C 0 dX6_get_0 rfl rfl ?_
  refine X_iload_n C 1 dX6_get_1 rfl rfl ?_
  refine X_iload_n C 2 dX6_get_2 rfl rfl ?_
  refine X_callVi (As := [.int v1, .int v2]) (rest := []) C aw_ok mcs lk_X6_35 hT nc_6 (by decide) rfl rfl (Nat.le_of_ble_eq_true rfl) dX6_get_3 hf (fun r s h => k_X6_has hT hU _ _ _ (r, s) h) (fun r2 s1 hf => ?_)
  refine X_if_eq (tgt := 25) C dX6_get_6 (by decide) hf (fun hf => ?_) (fun hf => ?_)
  · refine X_iconst (v := (-1:Int32)) C dX6_get_25 (by decide) ?_
    exact X_iret C dX6_get_26 hf Rr
  · refine X_aload_n C 0 dX6_get_9 rfl rfl ?_
    refine X_getr C 0 hT nc_6 inM_6 (by decide) (mc wd_3) rfl dX6_get_10 ?_
    refine X_iload_n C 1 dX6_get_13 rfl rfl ?_
    refine X_aload_n C 0 dX6_get_14 rfl rfl ?_
    refine X_geti C 2 hT nc_6 inM_6 (by decide) (mc wd_2) rfl dX6_get_15 ?_
    refine X_imul C dX6_get_18 ?_
    refine X_iload_n C 2 dX6_get_19 rfl rfl ?_
    refine X_iadd C dX6_get_20 ?_
    refine X_iald C hU dX6_get_21 hf (fun hf => ?_)
    refine X_goto (tgt := 26) C dX6_get_22 (by decide) ?_
    exact X_iret C dX6_get_26 hf Rr
def f_X6_get (t n : Nat) (s : Sg) (v1 : Int32) (v2 : Int32) : Option (Int32 × Sg) := c_X6_get_0 t n s v1 v2
theorem k_X6_get {S : List Shp} {t n : Nat} (hT : S[t]? = some (.inl (6, [some (t + 2), none, none, none]))) (hU : S[t + 1]? = some (.inr (0, n))) (s : Sg) (v1 : Int32) (v2 : Int32) (o : Int32 × Sg) (hf : f_X6_get t n s v1 v2 = some o) : Ctr NM yX6_get (ws_X6_get) rm_X6_get S s [.ref t, .int v1, .int v2] (some (.int o.1)) o.2 :=
  Ctr.of (by decide) rfl (Nat.le_of_ble_eq_true rfl) (fun X C Rr => by show XW NM X 3 0 0 S s 0 [(0, .ref t), (1, .int v1), (2, .int v2)] []; exact w_X6_get_0 hT hU C Rr s v1 v2 hf)
abbrev ws_X6_set : List Cond := Cond.code yX6_set cX6_set 4 none :: AW
abbrev rm_X6_set : Room := { frames := 1, cells := 0, slots := 0, locals := 22 }
def c_X6_set_0 (t n : Nat) (s : Sg) (v1 : Int32) (v2 : Int32) (v3 : Int32) : Option (Sg) :=
bd (f_X6_has t n s v1 v2) (fun r2 s1 => if r2 = 0 then
 some s1
 else
 gd (vi ((v1 * (s1 t 2)) + v2) n) (lt_ (sgu s1 (t + 1) ((v1 * (s1 t 2)) + v2).toNatClampNeg v3) (fun s3 => some s3)))
set_option maxHeartbeats 4000000 in
set_option maxRecDepth 100000 in
theorem w_X6_set_0 {X : Ctx} {S : List Shp} {t n : Nat} (hT : S[t]? = some (.inl (6, [some (t + 2), none, none, none]))) (hU : S[t + 1]? = some (.inr (0, n))) {o : Sg} (C : Cx NM X cX6_set 4 RX6 (ws_X6_set) none rm_X6_set) (Rr : Rx NM X 0 0 none S o) (s : Sg) (v1 : Int32) (v2 : Int32) (v3 : Int32) (hf : c_X6_set_0 t n s v1 v2 v3 = some o) : XW NM X 4 0 0 S s 0 [(0, .ref t), (1, .int v1), (2, .int v2), (3, .int v3)] [] := by
  unfold c_X6_set_0 at hf
  refine X_aload_n C 0 dX6_set_0 rfl rfl ?_
  refine X_iload_n C 1 dX6_set_1 rfl rfl ?_
  refine X_iload_n C 2 dX6_set_2 rfl rfl ?_
  refine X_callVi (As := [.int v1, .int v2]) (rest := []) C aw_ok mcs lk_X6_35 hT nc_6 (by decide) rfl rfl (Nat.le_of_ble_eq_true rfl) dX6_set_3 hf (fun r s h => k_X6_has hT hU _ _ _ (r, s) h) (fun r2 s1 hf => ?_)
  refine X_if_eq (tgt := 23) C dX6_set_6 (by decide) hf (fun hf => ?_) (fun hf => ?_)
  · exact X_vret C dX6_set_23 hf Rr
  · refine X_aload_n C 0 dX6_set_9 rfl rfl ?_
    refine X_getr C 0 hT nc_6 inM_6 (by decide) (mc wd_3) rfl dX6_set_10 ?_
    refine X_iload_n C 1 dX6_set_13 rfl rfl ?_
    refine X_aload_n C 0 dX6_set_14 rfl rfl ?_
    refine X_geti C 2 hT nc_6 inM_6 (by decide) (mc wd_2) rfl dX6_set_15 ?_
    refine X_imul C dX6_set_18 ?_
    refine X_iload_n C 2 dX6_set_19 rfl rfl ?_
    refine X_iadd C dX6_set_20 ?_
    refine X_iload_n C 3 dX6_set_21 rfl rfl ?_
    refine X_iast C hU dX6_set_22 hf (fun s3 hf => ?_)
    exact X_vret C dX6_set_23 hf Rr
def f_X6_set (t n : Nat) (s : Sg) (v1 : Int32) (v2 : Int32) (v3 : Int32) : Option (Sg) := c_X6_set_0 t n s v1 v2 v3
theorem k_X6_set {S : List Shp} {t n : Nat} (hT : S[t]? = some (.inl (6, [some (t + 2), none, none, none]))) (hU : S[t + 1]? = some (.inr (0, n))) (s : Sg) (v1 : Int32) (v2 : Int32) (v3 : Int32) (o : Sg) (hf : f_X6_set t n s v1 v2 v3 = some o) : Ctr NM yX6_set (ws_X6_set) rm_X6_set S s [.ref t, .int v1, .int v2, .int v3] none o :=
  Ctr.of (by decide) rfl (Nat.le_of_ble_eq_true rfl) (fun X C Rr => by show XW NM X 4 0 0 S s 0 [(0, .ref t), (1, .int v1), (2, .int v2), (3, .int v3)] []; exact w_X6_set_0 hT hU C Rr s v1 v2 v3 hf)
abbrev ws_X6_mixInto : List Cond := Cond.code yX6_mixInto cX6_mixInto 5 (some .long) :: AW
abbrev rm_X6_mixInto : Room := { frames := 0, cells := 0, slots := 0, locals := 0 }
def c_X6_mixInto_13 (t n : Nat) (N : Nat) (K13 : Sg → Int64 → Int32 → Int32 → Option (Int64 × Sg)) (s : Sg) (v1 : Int64) (v3 : Int32) (v4 : Int32) : Option (Int64 × Sg) :=
if v3 ≤ v4 then
 some (v1, s)
 else
 if (Int32.ofNat n) ≤ v4 then
 some (v1, s)
 else
 gd (vi v4 n) (lt_ ((((31:Int64)) * v1) + ((s (t + 1) v4.toNatClampNeg).toInt64)) (fun x1 => K13 s x1 v3 (v4 + (1:Int32))))
set_option maxHeartbeats 4000000 in
set_option maxRecDepth 100000 in
theorem w_X6_mixInto_13 {X : Ctx} {S : List Shp} {t n : Nat} (hT : S[t]? = some (.inl (6, [some (t + 2), none, none, none]))) (hU : S[t + 1]? = some (.inr (0, n))) {N : Nat} {o : Int64 × Sg} (C : Cx NM X cX6_mixInto 5 RX6 (ws_X6_mixInto) (some .long) rm_X6_mixInto) (Rr : Rx NM X 0 0 (some (.long o.1)) S o.2) {K13 : Sg → Int64 → Int32 → Int32 → Option (Int64 × Sg)} (hK13 : ∀ (s : Sg) (v1 : Int64) (v3 : Int32) (v4 : Int32), K13 s v1 v3 v4 = some o → XW NM X 5 0 0 S s 13 [(0, .ref t), (1, .long v1), (3, .int v3), (4, .int v4)] []) (s : Sg) (v1 : Int64) (v3 : Int32) (v4 : Int32) (hf : c_X6_mixInto_13 t n N K13 s v1 v3 v4 = some o) : XW NM X 5 0 0 S s 13 [(0, .ref t), (1, .long v1), (3, .int v3), (4, .int v4)] [] := by
  unfold c_X6_mixInto_13 at hf
  refine X_iload C 3 dX6_mixInto_13 rfl ?_
  refine X_iload_n C 2 dX6_mixInto_15 rfl rfl ?_
  refine X_icmp_ge (tgt := 50) C dX6_mixInto_16 (by decide) hf (fun hf => ?_) (fun hf => ?_)
  · refine X_lload_n C 1 dX6_mixInto_50 rfl rfl ?_
    exact X_lret C dX6_mixInto_51 hf Rr
  · refine X_iload C 3 dX6_mixInto_19 rfl ?_
    refine X_aload_n C 0 dX6_mixInto_21 rfl rfl ?_
    refine X_getr C 0 hT nc_6 inM_6 (by decide) (mc wd_3) rfl dX6_mixInto_22 ?_
    refine X_alen (v := Int32.ofNat n) C hU rfl rfl dX6_mixInto_25 ?_
    refine X_icmp_ge (tgt := 50) C dX6_mixInto_26 (by decide) hf (fun hf => ?_) (fun hf => ?_)
    · refine X_lload_n C 1 dX6_mixInto_50 rfl rfl ?_
      exact X_lret C dX6_mixInto_51 hf Rr
    · refine X_ldc2 (v := (31:Int64)) C (mc wd_4) dX6_mixInto_29 ?_
      refine X_lload_n C 1 dX6_mixInto_32 rfl rfl ?_
      refine X_lmul C dX6_mixInto_33 ?_
      refine X_aload_n C 0 dX6_mixInto_34 rfl rfl ?_
      refine X_getr C 0 hT nc_6 inM_6 (by decide) (mc wd_3) rfl dX6_mixInto_35 ?_
      refine X_iload C 3 dX6_mixInto_38 rfl ?_
      refine X_iald C hU dX6_mixInto_40 hf (fun hf => ?_)
      refine X_i2l C dX6_mixInto_41 ?_
      refine X_ladd C dX6_mixInto_42 ?_
      refine X_nml hf (fun x1 hf => ?_)
      refine X_lstore_n (L' := [(0, .ref t), (1, .long x1), (3, .int v3), (4, .int v4)]) C [1, 0, 2, 3] dX6_mixInto_43 rfl (by decide) rfl ?_
      refine X_iinc (v := (1:Int32)) (L' := [(0, .ref t), (1, .long x1), (3, .int v3), (4, .int (v4 + (1:Int32)))]) C 3 [1, 2, 3, 0] dX6_mixInto_44 rfl (by decide) (by decide) rfl ?_
      refine X_goto (tgt := 13) C dX6_mixInto_47 (by decide) ?_
      exact hK13 _ _ _ _ hf
def b_X6_mixInto_13 (t n : Nat) (N : Nat) : Nat → Sg → Int64 → Int32 → Int32 → Option (Int64 × Sg)
  | 0, _, _, _, _ => none
  | j + 1, s, v1, v3, v4 => c_X6_mixInto_13 t n N (b_X6_mixInto_13 t n N j) s v1 v3 v4
theorem h_X6_mixInto_13 {X : Ctx} {S : List Shp} {t n : Nat} (hT : S[t]? = some (.inl (6, [some (t + 2), none, none, none]))) (hU : S[t + 1]? = some (.inr (0, n))) {N : Nat} {o : Int64 × Sg} (C : Cx NM X cX6_mixInto 5 RX6 (ws_X6_mixInto) (some .long) rm_X6_mixInto) (Rr : Rx NM X 0 0 (some (.long o.1)) S o.2) : ∀ (j : Nat) (s : Sg) (v1 : Int64) (v3 : Int32) (v4 : Int32), b_X6_mixInto_13 t n N j s v1 v3 v4 = some o → XW NM X 5 0 0 S s 13 [(0, .ref t), (1, .long v1), (3, .int v3), (4, .int v4)] [] := by
  intro j
  induction j with
  | zero => intro s v1 v3 v4 hf; cases (show none = some o from hf)
  | succ j ih => intro s v1 v3 v4 hf; exact w_X6_mixInto_13 hT hU C Rr ih s v1 v3 v4 hf
def c_X6_mixInto_0 (t n : Nat) (N : Nat) (s : Sg) (v1 : Int64) : Option (Int64 × Sg) :=
lt_ ((s t 3) * (s t 2)) (fun x1 => b_X6_mixInto_13 t n N N s v1 x1 ((0:Int32)))
set_option maxHeartbeats 4000000 in
set_option maxRecDepth 100000 in
theorem w_X6_mixInto_0 {X : Ctx} {S : List Shp} {t n : Nat} (hT : S[t]? = some (.inl (6, [some (t + 2), none, none, none]))) (hU : S[t + 1]? = some (.inr (0, n))) {N : Nat} {o : Int64 × Sg} (C : Cx NM X cX6_mixInto 5 RX6 (ws_X6_mixInto) (some .long) rm_X6_mixInto) (Rr : Rx NM X 0 0 (some (.long o.1)) S o.2) (s : Sg) (v1 : Int64) (hf : c_X6_mixInto_0 t n N s v1 = some o) : XW NM X 5 0 0 S s 0 [(0, .ref t), (1, .long v1)] [] := by
  unfold c_X6_mixInto_0 at hf
  refine X_aload_n C 0 dX6_mixInto_0 rfl rfl ?_
  refine X_geti C 3 hT nc_6 inM_6 (by decide) (mc wd_0) rfl dX6_mixInto_1 ?_
  refine X_aload_n C 0 dX6_mixInto_4 rfl rfl ?_
  refine X_geti C 2 hT nc_6 inM_6 (by decide) (mc wd_2) rfl dX6_mixInto_5 ?_
  refine X_imul C dX6_mixInto_8 ?_
  refine X_nm hf (fun x1 hf => ?_)
  refine X_istore_n (L' := [(0, .ref t), (1, .long v1), (3, .int x1)]) C [1, 2, 0] dX6_mixInto_9 rfl (by decide) rfl ?_
  refine X_iconst (v := (0:Int32)) C dX6_mixInto_10 (by decide) ?_
  refine X_istore (L' := [(0, .ref t), (1, .long v1), (3, .int x1), (4, .int ((0:Int32)))]) C [1, 2, 3, 0] dX6_mixInto_11 (by decide) rfl ?_
  exact h_X6_mixInto_13 hT hU C Rr _ _ _ _ _ hf
def f_X6_mixInto (t n : Nat) (N : Nat) (s : Sg) (v1 : Int64) : Option (Int64 × Sg) := c_X6_mixInto_0 t n N s v1
theorem k_X6_mixInto {S : List Shp} {t n : Nat} (hT : S[t]? = some (.inl (6, [some (t + 2), none, none, none]))) (hU : S[t + 1]? = some (.inr (0, n))) {N : Nat} (s : Sg) (v1 : Int64) (o : Int64 × Sg) (hf : f_X6_mixInto t n N s v1 = some o) : Ctr NM yX6_mixInto (ws_X6_mixInto) rm_X6_mixInto S s [.ref t, .long v1] (some (.long o.1)) o.2 :=
  Ctr.of (by decide) rfl (Nat.le_of_ble_eq_true rfl) (fun X C Rr => by show XW NM X 5 0 0 S s 0 [(0, .ref t), (1, .long v1)] []; exact w_X6_mixInto_0 hT hU C Rr s v1 hf)

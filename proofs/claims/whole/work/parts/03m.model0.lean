abbrev ws_X8_in : List Cond := Cond.code yX8_in cX8_in 3 (some .boolean) :: AW
abbrev rm_X8_in : Room := { frames := 0, cells := 0, slots := 0, locals := 0 }
def c_X8_in_0 (s : Sg) (v0 : Int32) (v1 : Int32) (v2 : Int32) : Option (Int32 × Sg) :=
if v0 < v1 then
 gd (bz ((0:Int32))) (some ((0:Int32), s))
 else
 if v2 < v0 then
 gd (bz ((0:Int32))) (some ((0:Int32), s))
 else
 gd (bz ((1:Int32))) (some ((1:Int32), s))
set_option maxHeartbeats 4000000 in
set_option maxRecDepth 100000 in
theorem w_X8_in_0 {X : Ctx} {o : Int32 × Sg} (C : Cx NM X cX8_in 3 RX8 (ws_X8_in) (some .boolean) rm_X8_in) (Rr : Rx NM X 0 0 (some (.int o.1)) SH o.2) (s : Sg) (v0 : Int32) (v1 : Int32) (v2 : Int32) (hf : c_X8_in_0 s v0 v1 v2 = some o) : XW NM X 3 0 0 SH s 0 [(0, .int v0), (1, .int v1), (2, .int v2)] [] := by
  unfold c_X8_in_0 at hf
  refine X_iload_n C 0 dX8_in_0 rfl rfl ?_
  refine X_iload_n C 1 dX8_in_1 rfl rfl ?_
  refine X_icmp_lt (tgt := 14) C dX8_in_2 (by decide) hf (fun hf => ?_) (fun hf => ?_)
  · refine X_iconst (v := (0:Int32)) C dX8_in_14 (by decide) ?_
    exact X_zret C dX8_in_15 hf Rr
  · refine X_iload_n C 0 dX8_in_5 rfl rfl ?_
    refine X_iload_n C 2 dX8_in_6 rfl rfl ?_
    refine X_icmp_gt (tgt := 14) C dX8_in_7 (by decide) hf (fun hf => ?_) (fun hf => ?_)
    · refine X_iconst (v := (0:Int32)) C dX8_in_14 (by decide) ?_
      exact X_zret C dX8_in_15 hf Rr
    · refine X_iconst (v := (1:Int32)) C dX8_in_10 (by decide) ?_
      refine X_goto (tgt := 15) C dX8_in_11 (by decide) ?_
      exact X_zret C dX8_in_15 hf Rr
def f_X8_in (s : Sg) (v0 : Int32) (v1 : Int32) (v2 : Int32) : Option (Int32 × Sg) := c_X8_in_0 s v0 v1 v2
theorem k_X8_in (s : Sg) (v0 : Int32) (v1 : Int32) (v2 : Int32) (o : Int32 × Sg) (hf : f_X8_in s v0 v1 v2 = some o) : Ctr NM yX8_in (ws_X8_in) rm_X8_in SH s [.int v0, .int v1, .int v2] (some (.int o.1)) o.2 :=
  Ctr.of (by decide) rfl (Nat.le_of_ble_eq_true rfl) (fun X C Rr => by show XW NM X 3 0 0 SH s 0 [(0, .int v0), (1, .int v1), (2, .int v2)] []; exact w_X8_in_0 C Rr s v0 v1 v2 hf)
abbrev ws_X8_buy : List Cond := Cond.code yX8_buy cX8_buy 3 (some .int) :: AW
abbrev rm_X8_buy : Room := { frames := 1, cells := 0, slots := 0, locals := 22 }
def c_X8_buy_0 (s : Sg) (v1 : Int32) (v2 : Int32) : Option (Int32 × Sg) :=
bd (f_X8_in s v1 ((0:Int32)) ((5:Int32))) (fun r2 s1 => if r2 = 0 then
 some ((-2:Int32), s1)
 else
 bd (f_X8_in s1 v2 ((0:Int32)) ((10000:Int32))) (fun r4 s3 => if r4 = 0 then
 some ((-2:Int32), s3)
 else
 gd (vi v1 6) (if ((s3 37 v1.toNatClampNeg) + v2) ≤ ((10000:Int32)) then
 gd (vi v1 6) (gd (vi v1 6) (lt_ (sgu s3 37 v1.toNatClampNeg ((s3 37 v1.toNatClampNeg) + v2)) (fun s5 => gd (vi v1 6) (some (s5 37 v1.toNatClampNeg, s5)))))
 else
 some ((-3:Int32), s3))))
set_option maxHeartbeats 4000000 in
set_option maxRecDepth 100000 in
theorem w_X8_buy_0 {X : Ctx} {o : Int32 × Sg} (C : Cx NM X cX8_buy 3 RX8 (ws_X8_buy) (some .int) rm_X8_buy) (Rr : Rx NM X 0 0 (some (.int o.1)) SH o.2) (s : Sg) (v1 : Int32) (v2 : Int32) (hf : c_X8_buy_0 s v1 v2 = some o) : XW NM X 3 0 0 SH s 0 [(0, .ref 36), (1, .int v1), (2, .int v2)] [] := by
  unfold c_X8_buy_0 at hf
  refine X_iload_n C 1 dX8_buy_0 rfl rfl ?_
  refine X_iconst (v := (0:Int32)) C dX8_buy_1 (by decide) ?_
  refine X_iconst (v := (5:Int32)) C dX8_buy_2 (by decide) ?_
  refine X_callSi (As := [.int v1, .int ((0:Int32)), .int ((5:Int32))]) (rest := []) C aw_ok mcs lk_X8_123 (by decide) rfl rfl (Nat.le_of_ble_eq_true rfl) dX8_buy_3 hf (fun r s h => k_X8_in _ _ _ _ (r, s) h) (fun r2 s1 hf => ?_)
  refine X_if_eq (tgt := 20) C dX8_buy_6 (by decide) hf (fun hf => ?_) (fun hf => ?_)
  · refine X_bipush (v := (-2:Int32)) C dX8_buy_20 (by decide) ?_
    exact X_iret C dX8_buy_22 hf Rr
  · refine X_iload_n C 2 dX8_buy_9 rfl rfl ?_
    refine X_iconst (v := (0:Int32)) C dX8_buy_10 (by decide) ?_
    refine X_sipush (v := (10000:Int32)) C dX8_buy_11 (by decide) ?_
    refine X_callSi (As := [.int v2, .int ((0:Int32)), .int ((10000:Int32))]) (rest := []) C aw_ok mcs lk_X8_123 (by decide) rfl rfl (Nat.le_of_ble_eq_true rfl) dX8_buy_14 hf (fun r s h => k_X8_in _ _ _ _ (r, s) h) (fun r4 s3 hf => ?_)
    refine X_if_ne (tgt := 23) C dX8_buy_17 (by decide) hf (fun hf => ?_) (fun hf => ?_)
    · refine X_aload_n C 0 dX8_buy_23 rfl rfl ?_
      refine X_getr C 0 sh_36 nc_8 inM_8 (by decide) (mc wd_77) rfl dX8_buy_24 ?_
      refine X_iload_n C 1 dX8_buy_27 rfl rfl ?_
      refine X_iald C sh_37 dX8_buy_28 hf (fun hf => ?_)
      refine X_iload_n C 2 dX8_buy_29 rfl rfl ?_
      refine X_iadd C dX8_buy_30 ?_
      refine X_sipush (v := (10000:Int32)) C dX8_buy_31 (by decide) ?_
      refine X_icmp_le (tgt := 40) C dX8_buy_34 (by decide) hf (fun hf => ?_) (fun hf => ?_)
      · refine X_aload_n C 0 dX8_buy_40 rfl rfl ?_
        refine X_getr C 0 sh_36 nc_8 inM_8 (by decide) (mc wd_77) rfl dX8_buy_41 ?_
        refine X_iload_n C 1 dX8_buy_44 rfl rfl ?_
        refine X_dup2 C dX8_buy_45 rfl rfl ?_
        refine X_iald C sh_37 dX8_buy_46 hf (fun hf => ?_)
        refine X_iload_n C 2 dX8_buy_47 rfl rfl ?_
        refine X_iadd C dX8_buy_48 ?_
        refine X_iast C sh_37 dX8_buy_49 hf (fun s5 hf => ?_)
        refine X_aload_n C 0 dX8_buy_50 rfl rfl ?_
        refine X_getr C 0 sh_36 nc_8 inM_8 (by decide) (mc wd_77) rfl dX8_buy_51 ?_
        refine X_iload_n C 1 dX8_buy_54 rfl rfl ?_
        refine X_iald C sh_37 dX8_buy_55 hf (fun hf => ?_)
        exact X_iret C dX8_buy_56 hf Rr
      · refine X_bipush (v := (-3:Int32)) C dX8_buy_37 (by decide) ?_
        exact X_iret C dX8_buy_39 hf Rr
    · refine X_bipush (v := (-2:Int32)) C dX8_buy_20 (by decide) ?_
      exact X_iret C dX8_buy_22 hf Rr
def f_X8_buy (s : Sg) (v1 : Int32) (v2 : Int32) : Option (Int32 × Sg) := c_X8_buy_0 s v1 v2
theorem k_X8_buy (s : Sg) (v1 : Int32) (v2 : Int32) (o : Int32 × Sg) (hf : f_X8_buy s v1 v2 = some o) : Ctr NM yX8_buy (ws_X8_buy) rm_X8_buy SH s [.ref 36, .int v1, .int v2] (some (.int o.1)) o.2 :=
  Ctr.of (by decide) rfl (Nat.le_of_ble_eq_true rfl) (fun X C Rr => by show XW NM X 3 0 0 SH s 0 [(0, .ref 36), (1, .int v1), (2, .int v2)] []; exact w_X8_buy_0 C Rr s v1 v2 hf)
abbrev ws_X8_store : List Cond := Cond.code yX8_store cX8_store 2 (some .int) :: AW
abbrev rm_X8_store : Room := { frames := 1, cells := 0, slots := 0, locals := 22 }
def c_X8_store_0 (s : Sg) (v1 : Int32) : Option (Int32 × Sg) :=
bd (f_X8_in s v1 ((0:Int32)) ((5:Int32))) (fun r2 s1 => if r2 = 0 then
 some ((-2:Int32), s1)
 else
 gd (vi v1 6) (some (s1 37 v1.toNatClampNeg, s1)))
set_option maxHeartbeats 4000000 in
set_option maxRecDepth 100000 in
theorem w_X8_store_0 {X : Ctx} {o : Int32 × Sg} (C : Cx NM X cX8_store 2 RX8 (ws_X8_store) (some .int) rm_X8_store) (Rr : Rx NM X 0 0 (some (.int o.1)) SH o.2) (s : Sg) (v1 : Int32) (hf : c_X8_store_0 s v1 = some o) : XW NM X 2 0 0 SH s 0 [(0, .ref 36), (1, .int v1)] [] := by
  unfold c_X8_store_0 at hf
  refine X_iload_n C 1 dX8_store_0 rfl rfl ?_
  refine X_iconst (v := (0:Int32)) C dX8_store_1 (by decide) ?_
  refine X_iconst (v := (5:Int32)) C dX8_store_2 (by decide) ?_
  refine X_callSi (As := [.int v1, .int ((0:Int32)), .int ((5:Int32))]) (rest := []) C aw_ok mcs lk_X8_123 (by decide) rfl rfl (Nat.le_of_ble_eq_true rfl) dX8_store_3 hf (fun r s h => k_X8_in _ _ _ _ (r, s) h) (fun r2 s1 hf => ?_)
  refine X_if_eq (tgt := 18) C dX8_store_6 (by decide) hf (fun hf => ?_) (fun hf => ?_)
  · refine X_bipush (v := (-2:Int32)) C dX8_store_18 (by decide) ?_
    exact X_iret C dX8_store_20 hf Rr
  · refine X_aload_n C 0 dX8_store_9 rfl rfl ?_
    refine X_getr C 0 sh_36 nc_8 inM_8 (by decide) (mc wd_77) rfl dX8_store_10 ?_
    refine X_iload_n C 1 dX8_store_13 rfl rfl ?_
    refine X_iald C sh_37 dX8_store_14 hf (fun hf => ?_)
    refine X_goto (tgt := 20) C dX8_store_15 (by decide) ?_
    exact X_iret C dX8_store_20 hf Rr
def f_X8_store (s : Sg) (v1 : Int32) : Option (Int32 × Sg) := c_X8_store_0 s v1
theorem k_X8_store (s : Sg) (v1 : Int32) (o : Int32 × Sg) (hf : f_X8_store s v1 = some o) : Ctr NM yX8_store (ws_X8_store) rm_X8_store SH s [.ref 36, .int v1] (some (.int o.1)) o.2 :=
  Ctr.of (by decide) rfl (Nat.le_of_ble_eq_true rfl) (fun X C Rr => by show XW NM X 2 0 0 SH s 0 [(0, .ref 36), (1, .int v1)] []; exact w_X8_store_0 C Rr s v1 hf)
abbrev ws_X8_rich : List Cond := Cond.code yX8_rich cX8_rich 4 (some .int) :: AW
abbrev rm_X8_rich : Room := { frames := 1, cells := 0, slots := 0, locals := 22 }
def c_X8_rich_0 (s : Sg) (v1 : Int32) (v2 : Int32) : Option (Int32 × Sg) :=
bd (f_X8_in s v1 ((0:Int32)) ((3:Int32))) (fun r2 s1 => if r2 = 0 then
 some ((-2:Int32), s1)
 else
 bd (f_X8_in s1 v2 ((10:Int32)) ((60:Int32))) (fun r4 s3 => if r4 = 0 then
 some ((-2:Int32), s3)
 else
 gd (vi v1 4) (lt_ (s3 38 v1.toNatClampNeg) (fun x5 => gd (vi v1 4) (lt_ (sgu s3 38 v1.toNatClampNeg v2) (fun s6 => some (x5, s6)))))))
set_option maxHeartbeats 4000000 in
set_option maxRecDepth 100000 in
theorem w_X8_rich_0 {X : Ctx} {o : Int32 × Sg} (C : Cx NM X cX8_rich 4 RX8 (ws_X8_rich) (some .int) rm_X8_rich) (Rr : Rx NM X 0 0 (some (.int o.1)) SH o.2) (s : Sg) (v1 : Int32) (v2 : Int32) (hf : c_X8_rich_0 s v1 v2 = some o) : XW NM X 4 0 0 SH s 0 [(0, .ref 36), (1, .int v1), (2, .int v2)] [] := by
  unfold c_X8_rich_0 at hf
  refine X_iload_n C 1 dX8_rich_0 rfl rfl ?_
  refine X_iconst (v := (0:Int32)) C dX8_rich_1 (by decide) ?_
  refine X_iconst (v := (3:Int32)) C dX8_rich_2 (by decide) ?_
  refine X_callSi (As := [.int v1, .int ((0:Int32)), .int ((3:Int32))]) (rest := []) C aw_ok mcs lk_X8_123 (by decide) rfl rfl (Nat.le_of_ble_eq_true rfl) dX8_rich_3 hf (fun r s h => k_X8_in _ _ _ _ (r, s) h) (fun r2 s1 hf => ?_)
  refine X_if_eq (tgt := 20) C dX8_rich_6 (by decide) hf (fun hf => ?_) (fun hf => ?_)
  · refine X_bipush (v := (-2:Int32)) C dX8_rich_20 (by decide) ?_
    exact X_iret C dX8_rich_22 hf Rr
  · refine X_iload_n C 2 dX8_rich_9 rfl rfl ?_
    refine X_bipush (v := (10:Int32)) C dX8_rich_10 (by decide) ?_
    refine X_bipush (v := (60:Int32)) C dX8_rich_12 (by decide) ?_
    refine X_callSi (As := [.int v2, .int ((10:Int32)), .int ((60:Int32))]) (rest := []) C aw_ok mcs lk_X8_123 (by decide) rfl rfl (Nat.le_of_ble_eq_true rfl) dX8_rich_14 hf (fun r s h => k_X8_in _ _ _ _ (r, s) h) (fun r4 s3 hf => ?_)
    refine X_if_ne (tgt := 23) C dX8_rich_17 (by decide) hf (fun hf => ?_) (fun hf => ?_)
    · refine X_aload_n C 0 dX8_rich_23 rfl rfl ?_
      refine X_getr C 1 sh_36 nc_8 inM_8 (by decide) (mc wd_78) rfl dX8_rich_24 ?_
      refine X_iload_n C 1 dX8_rich_27 rfl rfl ?_
      refine X_iald C sh_38 dX8_rich_28 hf (fun hf => ?_)
      refine X_nm hf (fun x5 hf => ?_)
      refine X_istore_n (L' := [(0, .ref 36), (1, .int v1), (2, .int v2), (3, .int x5)]) C [1, 2, 3, 0] dX8_rich_29 rfl (by decide) rfl ?_
      refine X_aload_n C 0 dX8_rich_30 rfl rfl ?_
      refine X_getr C 1 sh_36 nc_8 inM_8 (by decide) (mc wd_78) rfl dX8_rich_31 ?_
      refine X_iload_n C 1 dX8_rich_34 rfl rfl ?_
      refine X_iload_n C 2 dX8_rich_35 rfl rfl ?_
      refine X_iast C sh_38 dX8_rich_36 hf (fun s6 hf => ?_)
      refine X_iload_n C 3 dX8_rich_37 rfl rfl ?_
      exact X_iret C dX8_rich_38 hf Rr
    · refine X_bipush (v := (-2:Int32)) C dX8_rich_20 (by decide) ?_
      exact X_iret C dX8_rich_22 hf Rr
def f_X8_rich (s : Sg) (v1 : Int32) (v2 : Int32) : Option (Int32 × Sg) := c_X8_rich_0 s v1 v2
theorem k_X8_rich (s : Sg) (v1 : Int32) (v2 : Int32) (o : Int32 × Sg) (hf : f_X8_rich s v1 v2 = some o) : Ctr NM yX8_rich (ws_X8_rich) rm_X8_rich SH s [.ref 36, .int v1, .int v2] (some (.int o.1)) o.2 :=
  Ctr.of (by decide) rfl (Nat.le_of_ble_eq_true rfl) (fun X C Rr => by show XW NM X 4 0 0 SH s 0 [(0, .ref 36), (1, .int v1), (2, .int v2)] []; exact w_X8_rich_0 C Rr s v1 v2 hf)
abbrev ws_X8_charge : List Cond := Cond.code yX8_charge cX8_charge 5 (some .int) :: AW
abbrev rm_X8_charge : Room := { frames := 1, cells := 0, slots := 0, locals := 22 }
def c_X8_charge_0 (s : Sg) (v1 : Int32) (v2 : Int32) (v3 : Int32) (v4 : Int32) : Option (Int32 × Sg) :=
bd (f_X8_in s v1 ((1:Int32)) ((60:Int32))) (fun r2 s1 => if r2 = 0 then
 some ((-2:Int32), s1)
 else
 bd (f_X8_in s1 v2 ((0:Int32)) ((3:Int32))) (fun r4 s3 => if r4 = 0 then
 some ((-2:Int32), s3)
 else
 bd (f_X8_in s3 v3 ((0:Int32)) ((60:Int32))) (fun r6 s5 => if r6 = 0 then
 some ((-2:Int32), s5)
 else
 bd (f_X8_in s5 v4 ((0:Int32)) ((30:Int32))) (fun r8 s7 => if r8 = 0 then
 some ((-2:Int32), s7)
 else
 gd (vi ((0:Int32)) 6) (if (s7 37 ((0:Int32)).toNatClampNeg) < v1 then
 some ((-3:Int32), s7)
 else
 gd (vi ((1:Int32)) 6) (if (s7 37 ((1:Int32)).toNatClampNeg) < v4 then
 some ((-3:Int32), s7)
 else
 gd (vi (((2:Int32)) + v2) 6) (if v3 ≤ (s7 37 (((2:Int32)) + v2).toNatClampNeg) then
 if ((s7 36 2) - (s7 36 3)) = ((12:Int32)) then
 some ((-4:Int32), s7)
 else
 if (s7 36 2) = ((400:Int32)) then
 some ((-4:Int32), s7)
 else
 gd (vi ((0:Int32)) 6) (gd (vi ((0:Int32)) 6) (lt_ (sgu s7 37 ((0:Int32)).toNatClampNeg ((s7 37 ((0:Int32)).toNatClampNeg) - v1)) (fun s9 => gd (vi ((1:Int32)) 6) (gd (vi ((1:Int32)) 6) (lt_ (sgu s9 37 ((1:Int32)).toNatClampNeg ((s9 37 ((1:Int32)).toNatClampNeg) - v4)) (fun s10 => gd (vi (((2:Int32)) + v2) 6) (gd (vi (((2:Int32)) + v2) 6) (lt_ (sgu s10 37 (((2:Int32)) + v2).toNatClampNeg ((s10 37 (((2:Int32)) + v2).toNatClampNeg) - v3)) (fun s11 => gd (vi (s11 36 2) 400) (lt_ (sgu s11 39 (s11 36 2).toNatClampNeg ((0:Int32))) (fun s12 => gd (vi (s12 36 2) 400) (lt_ (sgu s12 40 (s12 36 2).toNatClampNeg v1) (fun s13 => gd (vi (s13 36 2) 400) (lt_ (sgu s13 41 (s13 36 2).toNatClampNeg v3) (fun s14 => gd (vi (s14 36 2) 400) (lt_ (sgu s14 42 (s14 36 2).toNatClampNeg v4) (fun s15 => gd (vi (s15 36 2) 400) (lt_ (sgu s15 43 (s15 36 2).toNatClampNeg v2) (fun s16 => gd (vi (s16 36 2) 400) (lt_ (sgu s16 44 (s16 36 2).toNatClampNeg ((-1:Int32))) (fun s17 => gd (vi (s17 36 2) 400) (lt_ (sgu s17 45 (s17 36 2).toNatClampNeg ((0:Int32))) (fun s18 => lt_ (sgu s18 36 2 ((s18 36 2) + ((1:Int32)))) (fun s19 => some ((s19 36 2) - ((1:Int32)), s19)))))))))))))))))))))))))
 else
 some ((-3:Int32), s7))))))))
set_option maxHeartbeats 4000000 in
set_option maxRecDepth 100000 in
theorem w_X8_charge_0 {X : Ctx} {o : Int32 × Sg} (C : Cx NM X cX8_charge 5 RX8 (ws_X8_charge) (some .int) rm_X8_charge) (Rr : Rx NM X 0 0 (some (.int o.1)) SH o.2) (s : Sg) (v1 : Int32) (v2 : Int32) (v3 : Int32) (v4 : Int32) (hf : c_X8_charge_0 s v1 v2 v3 v4 = some o) : XW NM X 5 0 0 SH s 0 [(0, .ref 36), (1, .int v1), (2, .int v2), (3, .int v3), (4, .int v4)] [] := by
  unfold c_X8_charge_0 at hf
  refine X_iload_n C 1 dX8_charge_0 rfl rfl ?_
  refine X_iconst (v := (1:Int32)) C dX8_charge_1 (by decide) ?_
  refine X_bipush (v := (60:Int32)) C dX8_charge_2 (by decide) ?_
  refine X_callSi (As := [.int v1, .int ((1:Int32)), .int ((60:Int32))]) (rest := []) C aw_ok mcs lk_X8_123 (by decide) rfl rfl (Nat.le_of_ble_eq_true rfl) dX8_charge_4 hf (fun r s h => k_X8_in _ _ _ _ (r, s) h) (fun r2 s1 hf => ?_)
  refine X_if_eq (tgt := 40) C dX8_charge_7 (by decide) hf (fun hf => ?_) (fun hf => ?_)
  · refine X_bipush (v := (-2:Int32)) C dX8_charge_40 (by decide) ?_
    exact X_iret C dX8_charge_42 hf Rr
  · refine X_iload_n C 2 dX8_charge_10 rfl rfl ?_
    refine X_iconst (v := (0:Int32)) C dX8_charge_11 (by decide) ?_
    refine X_iconst (v := (3:Int32)) C dX8_charge_12 (by decide) ?_
    refine X_callSi (As := [.int v2, .int ((0:Int32)), .int ((3:Int32))]) (rest := []) C aw_ok mcs lk_X8_123 (by decide) rfl rfl (Nat.le_of_ble_eq_true rfl) dX8_charge_13 hf (fun r s h => k_X8_in _ _ _ _ (r, s) h) (fun r4 s3 hf => ?_)
    refine X_if_eq (tgt := 40) C dX8_charge_16 (by decide) hf (fun hf => ?_) (fun hf => ?_)
    · refine X_bipush (v := (-2:Int32)) C dX8_charge_40 (by decide) ?_
      exact X_iret C dX8_charge_42 hf Rr
    · refine X_iload_n C 3 dX8_charge_19 rfl rfl ?_
      refine X_iconst (v := (0:Int32)) C dX8_charge_20 (by decide) ?_
      refine X_bipush (v := (60:Int32)) C dX8_charge_21 (by decide) ?_
      refine X_callSi (As := [.int v3, .int ((0:Int32)), .int ((60:Int32))]) (rest := []) C aw_ok mcs lk_X8_123 (by decide) rfl rfl (Nat.le_of_ble_eq_true rfl) dX8_charge_23 hf (fun r s h => k_X8_in _ _ _ _ (r, s) h) (fun r6 s5 hf => ?_)
      refine X_if_eq (tgt := 40) C dX8_charge_26 (by decide) hf (fun hf => ?_) (fun hf => ?_)
      · refine X_bipush (v := (-2:Int32)) C dX8_charge_40 (by decide) ?_
        exact X_iret C dX8_charge_42 hf Rr
      · refine X_iload C 4 dX8_charge_29 rfl ?_
        refine X_iconst (v := (0:Int32)) C dX8_charge_31 (by decide) ?_
        refine X_bipush (v := (30:Int32)) C dX8_charge_32 (by decide) ?_
        refine X_callSi (As := [.int v4, .int ((0:Int32)), .int ((30:Int32))]) (rest := []) C aw_ok mcs lk_X8_123 (by decide) rfl rfl (Nat.le_of_ble_eq_true rfl) dX8_charge_34 hf (fun r s h => k_X8_in _ _ _ _ (r, s) h) (fun r8 s7 hf => ?_)
        refine X_if_ne (tgt := 43) C dX8_charge_37 (by decide) hf (fun hf => ?_) (fun hf => ?_)
        · refine X_aload_n C 0 dX8_charge_43 rfl rfl ?_
          refine X_getr C 0 sh_36 nc_8 inM_8 (by decide) (mc wd_77) rfl dX8_charge_44 ?_
          refine X_iconst (v := (0:Int32)) C dX8_charge_47 (by decide) ?_
          refine X_iald C sh_37 dX8_charge_48 hf (fun hf => ?_)
          refine X_iload_n C 1 dX8_charge_49 rfl rfl ?_
          refine X_icmp_lt (tgt := 76) C dX8_charge_50 (by decide) hf (fun hf => ?_) (fun hf => ?_)
          · refine X_bipush (v := (-3:Int32)) C dX8_charge_76 (by decide) ?_
            exact X_iret C dX8_charge_78 hf Rr
          · refine X_aload_n C 0 dX8_charge_53 rfl rfl ?_
            refine X_getr C 0 sh_36 nc_8 inM_8 (by decide) (mc wd_77) rfl dX8_charge_54 ?_
            refine X_iconst (v := (1:Int32)) C dX8_charge_57 (by decide) ?_
            refine X_iald C sh_37 dX8_charge_58 hf (fun hf => ?_)
            refine X_iload C 4 dX8_charge_59 rfl ?_
            refine X_icmp_lt (tgt := 76) C dX8_charge_61 (by decide) hf (fun hf => ?_) (fun hf => ?_)
            · refine X_bipush (v := (-3:Int32)) C dX8_charge_76 (by decide) ?_
              exact X_iret C dX8_charge_78 hf Rr
            · refine X_aload_n C 0 dX8_charge_64 rfl rfl ?_
              refine X_getr C 0 sh_36 nc_8 inM_8 (by decide) (mc wd_77) rfl dX8_charge_65 ?_
              refine X_iconst (v := (2:Int32)) C dX8_charge_68 (by decide) ?_
              refine X_iload_n C 2 dX8_charge_69 rfl rfl ?_
              refine X_iadd C dX8_charge_70 ?_
              refine X_iald C sh_37 dX8_charge_71 hf (fun hf => ?_)
              refine X_iload_n C 3 dX8_charge_72 rfl rfl ?_
              refine X_icmp_ge (tgt := 79) C dX8_charge_73 (by decide) hf (fun hf => ?_) (fun hf => ?_)
              · refine X_aload_n C 0 dX8_charge_79 rfl rfl ?_
                refine X_geti C 2 sh_36 nc_8 inM_8 (by decide) (mc wd_79) rfl dX8_charge_80 ?_
                refine X_aload_n C 0 dX8_charge_83 rfl rfl ?_
                refine X_geti C 3 sh_36 nc_8 inM_8 (by decide) (mc wd_80) rfl dX8_charge_84 ?_
                refine X_isub C dX8_charge_87 ?_
                refine X_bipush (v := (12:Int32)) C dX8_charge_88 (by decide) ?_
                refine X_icmp_eq (tgt := 103) C dX8_charge_90 (by decide) hf (fun hf => ?_) (fun hf => ?_)
                · refine X_bipush (v := (-4:Int32)) C dX8_charge_103 (by decide) ?_
                  exact X_iret C dX8_charge_105 hf Rr
                · refine X_aload_n C 0 dX8_charge_93 rfl rfl ?_
                  refine X_geti C 2 sh_36 nc_8 inM_8 (by decide) (mc wd_79) rfl dX8_charge_94 ?_
                  refine X_sipush (v := (400:Int32)) C dX8_charge_97 (by decide) ?_
                  refine X_icmp_ne (tgt := 106) C dX8_charge_100 (by decide) hf (fun hf => ?_) (fun hf => ?_)
                  · refine X_aload_n C 0 dX8_charge_106 rfl rfl ?_
                    refine X_getr C 0 sh_36 nc_8 inM_8 (by decide) (mc wd_77) rfl dX8_charge_107 ?_
                    refine X_iconst (v := (0:Int32)) C dX8_charge_110 (by decide) ?_
                    refine X_dup2 C dX8_charge_111 rfl rfl ?_
                    refine X_iald C sh_37 dX8_charge_112 hf (fun hf => ?_)
                    refine X_iload_n C 1 dX8_charge_113 rfl rfl ?_
                    refine X_isub C dX8_charge_114 ?_
                    refine X_iast C sh_37 dX8_charge_115 hf (fun s9 hf => ?_)
                    refine X_aload_n C 0 dX8_charge_116 rfl rfl ?_
                    refine X_getr C 0 sh_36 nc_8 inM_8 (by decide) (mc wd_77) rfl dX8_charge_117 ?_
                    refine X_iconst (v := (1:Int32)) C dX8_charge_120 (by decide) ?_
                    refine X_dup2 C dX8_charge_121 rfl rfl ?_
                    refine X_iald C sh_37 dX8_charge_122 hf (fun hf => ?_)
                    refine X_iload C 4 dX8_charge_123 rfl ?_
                    refine X_isub C dX8_charge_125 ?_
                    refine X_iast C sh_37 dX8_charge_126 hf (fun s10 hf => ?_)
                    refine X_aload_n C 0 dX8_charge_127 rfl rfl ?_
                    refine X_getr C 0 sh_36 nc_8 inM_8 (by decide) (mc wd_77) rfl dX8_charge_128 ?_
                    refine X_iconst (v := (2:Int32)) C dX8_charge_131 (by decide) ?_
                    refine X_iload_n C 2 dX8_charge_132 rfl rfl ?_
                    refine X_iadd C dX8_charge_133 ?_
                    refine X_dup2 C dX8_charge_134 rfl rfl ?_
                    refine X_iald C sh_37 dX8_charge_135 hf (fun hf => ?_)
                    refine X_iload_n C 3 dX8_charge_136 rfl rfl ?_
                    refine X_isub C dX8_charge_137 ?_
                    refine X_iast C sh_37 dX8_charge_138 hf (fun s11 hf => ?_)
                    refine X_aload_n C 0 dX8_charge_139 rfl rfl ?_
                    refine X_getr C 4 sh_36 nc_8 inM_8 (by decide) (mc wd_81) rfl dX8_charge_140 ?_
                    refine X_aload_n C 0 dX8_charge_143 rfl rfl ?_
                    refine X_geti C 2 sh_36 nc_8 inM_8 (by decide) (mc wd_79) rfl dX8_charge_144 ?_
                    refine X_iconst (v := (0:Int32)) C dX8_charge_147 (by decide) ?_
                    refine X_iast C sh_39 dX8_charge_148 hf (fun s12 hf => ?_)
                    refine X_aload_n C 0 dX8_charge_149 rfl rfl ?_
                    refine X_getr C 5 sh_36 nc_8 inM_8 (by decide) (mc wd_82) rfl dX8_charge_150 ?_
                    refine X_aload_n C 0 dX8_charge_153 rfl rfl ?_
                    refine X_geti C 2 sh_36 nc_8 inM_8 (by decide) (mc wd_79) rfl dX8_charge_154 ?_
                    refine X_iload_n C 1 dX8_charge_157 rfl rfl ?_
                    refine X_iast C sh_40 dX8_charge_158 hf (fun s13 hf => ?_)
                    refine X_aload_n C 0 dX8_charge_159 rfl rfl ?_
                    refine X_getr C 6 sh_36 nc_8 inM_8 (by decide) (mc wd_83) rfl dX8_charge_160 ?_
                    refine X_aload_n C 0 dX8_charge_163 rfl rfl ?_
                    refine X_geti C 2 sh_36 nc_8 inM_8 (by decide) (mc wd_79) rfl dX8_charge_164 ?_
                    refine X_iload_n C 3 dX8_charge_167 rfl rfl ?_
                    refine X_iast C sh_41 dX8_charge_168 hf (fun s14 hf => ?_)
                    refine X_aload_n C 0 dX8_charge_169 rfl rfl ?_
                    refine X_getr C 7 sh_36 nc_8 inM_8 (by decide) (mc wd_84) rfl dX8_charge_170 ?_
                    refine X_aload_n C 0 dX8_charge_173 rfl rfl ?_
                    refine X_geti C 2 sh_36 nc_8 inM_8 (by decide) (mc wd_79) rfl dX8_charge_174 ?_
                    refine X_iload C 4 dX8_charge_177 rfl ?_
                    refine X_iast C sh_42 dX8_charge_179 hf (fun s15 hf => ?_)
                    refine X_aload_n C 0 dX8_charge_180 rfl rfl ?_
                    refine X_getr C 8 sh_36 nc_8 inM_8 (by decide) (mc wd_85) rfl dX8_charge_181 ?_
                    refine X_aload_n C 0 dX8_charge_184 rfl rfl ?_
                    refine X_geti C 2 sh_36 nc_8 inM_8 (by decide) (mc wd_79) rfl dX8_charge_185 ?_
                    refine X_iload_n C 2 dX8_charge_188 rfl rfl ?_
                    refine X_iast C sh_43 dX8_charge_189 hf (fun s16 hf => ?_)
                    refine X_aload_n C 0 dX8_charge_190 rfl rfl ?_
                    refine X_getr C 9 sh_36 nc_8 inM_8 (by decide) (mc wd_86) rfl dX8_charge_191 ?_
                    refine X_aload_n C 0 dX8_charge_194 rfl rfl ?_
                    refine X_geti C 2 sh_36 nc_8 inM_8 (by decide) (mc wd_79) rfl dX8_charge_195 ?_
                    refine X_iconst (v := (-1:Int32)) C dX8_charge_198 (by decide) ?_
                    refine X_iast C sh_44 dX8_charge_199 hf (fun s17 hf => ?_)
                    refine X_aload_n C 0 dX8_charge_200 rfl rfl ?_
                    refine X_getr C 10 sh_36 nc_8 inM_8 (by decide) (mc wd_87) rfl dX8_charge_201 ?_
                    refine X_aload_n C 0 dX8_charge_204 rfl rfl ?_
                    refine X_geti C 2 sh_36 nc_8 inM_8 (by decide) (mc wd_79) rfl dX8_charge_205 ?_
                    refine X_iconst (v := (0:Int32)) C dX8_charge_208 (by decide) ?_
                    refine X_iast C sh_45 dX8_charge_209 hf (fun s18 hf => ?_)
                    refine X_aload_n C 0 dX8_charge_210 rfl rfl ?_
                    refine X_dup C dX8_charge_211 rfl ?_
                    refine X_geti C 2 sh_36 nc_8 inM_8 (by decide) (mc wd_79) rfl dX8_charge_212 ?_
                    refine X_iconst (v := (1:Int32)) C dX8_charge_215 (by decide) ?_
                    refine X_iadd C dX8_charge_216 ?_
                    refine X_puti C 2 sh_36 nc_8 inM_8 (by decide) tyX8 tyX8_ok nmX8 (mc wd_79) rfl (by decide +kernel) rfl dX8_charge_217 hf (fun s19 hf => ?_)
                    refine X_aload_n C 0 dX8_charge_220 rfl rfl ?_
                    refine X_geti C 2 sh_36 nc_8 inM_8 (by decide) (mc wd_79) rfl dX8_charge_221 ?_
                    refine X_iconst (v := (1:Int32)) C dX8_charge_224 (by decide) ?_
                    refine X_isub C dX8_charge_225 ?_
                    exact X_iret C dX8_charge_226 hf Rr
                  · refine X_bipush (v := (-4:Int32)) C dX8_charge_103 (by decide) ?_
                    exact X_iret C dX8_charge_105 hf Rr
              · refine X_bipush (v := (-3:Int32)) C dX8_charge_76 (by decide) ?_
                exact X_iret C dX8_charge_78 hf Rr
        · refine X_bipush (v := (-2:Int32)) C dX8_charge_40 (by decide) ?_
          exact X_iret C dX8_charge_42 hf Rr
def f_X8_charge (s : Sg) (v1 : Int32) (v2 : Int32) (v3 : Int32) (v4 : Int32) : Option (Int32 × Sg) := c_X8_charge_0 s v1 v2 v3 v4
theorem k_X8_charge (s : Sg) (v1 : Int32) (v2 : Int32) (v3 : Int32) (v4 : Int32) (o : Int32 × Sg) (hf : f_X8_charge s v1 v2 v3 v4 = some o) : Ctr NM yX8_charge (ws_X8_charge) rm_X8_charge SH s [.ref 36, .int v1, .int v2, .int v3, .int v4] (some (.int o.1)) o.2 :=
  Ctr.of (by decide) rfl (Nat.le_of_ble_eq_true rfl) (fun X C Rr => by show XW NM X 5 0 0 SH s 0 [(0, .ref 36), (1, .int v1), (2, .int v2), (3, .int v3), (4, .int v4)] []; exact w_X8_charge_0 C Rr s v1 v2 v3 v4 hf)
abbrev ws_X8_chargeAt : List Cond := Cond.code yX8_chargeAt cX8_chargeAt 3 (some .int) :: AW
abbrev rm_X8_chargeAt : Room := { frames := 1, cells := 0, slots := 0, locals := 22 }
def c_X8_chargeAt_0 (s : Sg) (v1 : Int32) (v2 : Int32) : Option (Int32 × Sg) :=
if v1 < 0 then
 some ((-2:Int32), s)
 else
 bd (f_X8_in s v2 ((0:Int32)) ((6:Int32))) (fun r2 s1 => if r2 = 0 then
 some ((-2:Int32), s1)
 else
 if v1 < (s1 36 2) then
 if v2 = (0:Int32) then
 gd (vi v1 400) (some (s1 39 v1.toNatClampNeg, s1))
 else if v2 = (1:Int32) then
 gd (vi v1 400) (some (s1 40 v1.toNatClampNeg, s1))
 else if v2 = (2:Int32) then
 gd (vi v1 400) (some (s1 41 v1.toNatClampNeg, s1))
 else if v2 = (3:Int32) then
 gd (vi v1 400) (some (s1 42 v1.toNatClampNeg, s1))
 else if v2 = (4:Int32) then
 gd (vi v1 400) (some (s1 43 v1.toNatClampNeg, s1))
 else if v2 = (5:Int32) then
 gd (vi v1 400) (some (s1 44 v1.toNatClampNeg, s1))
 else gd (vi v1 400) (some (s1 45 v1.toNatClampNeg, s1))
 else
 some ((-1:Int32), s1))
set_option maxHeartbeats 4000000 in
set_option maxRecDepth 100000 in
theorem w_X8_chargeAt_0 {X : Ctx} {o : Int32 × Sg} (C : Cx NM X cX8_chargeAt 3 RX8 (ws_X8_chargeAt) (some .int) rm_X8_chargeAt) (Rr : Rx NM X 0 0 (some (.int o.1)) SH o.2) (s : Sg) (v1 : Int32) (v2 : Int32) (hf : c_X8_chargeAt_0 s v1 v2 = some o) : XW NM X 3 0 0 SH s 0 [(0, .ref 36), (1, .int v1), (2, .int v2)] [] := by
  unfold c_X8_chargeAt_0 at hf
  refine X_iload_n C 1 dX8_chargeAt_0 rfl rfl ?_
  refine X_if_lt (tgt := 14) C dX8_chargeAt_1 (by decide) hf (fun hf => ?_) (fun hf => ?_)
  · refine X_bipush (v := (-2:Int32)) C dX8_chargeAt_14 (by decide) ?_
    exact X_iret C dX8_chargeAt_16 hf Rr
  · refine X_iload_n C 2 dX8_chargeAt_4 rfl rfl ?_
    refine X_iconst (v := (0:Int32)) C dX8_chargeAt_5 (by decide) ?_
    refine X_bipush (v := (6:Int32)) C dX8_chargeAt_6 (by decide) ?_
    refine X_callSi (As := [.int v2, .int ((0:Int32)), .int ((6:Int32))]) (rest := []) C aw_ok mcs lk_X8_123 (by decide) rfl rfl (Nat.le_of_ble_eq_true rfl) dX8_chargeAt_8 hf (fun r s h => k_X8_in _ _ _ _ (r, s) h) (fun r2 s1 hf => ?_)
    refine X_if_ne (tgt := 17) C dX8_chargeAt_11 (by decide) hf (fun hf => ?_) (fun hf => ?_)
    · refine X_iload_n C 1 dX8_chargeAt_17 rfl rfl ?_
      refine X_aload_n C 0 dX8_chargeAt_18 rfl rfl ?_
      refine X_geti C 2 sh_36 nc_8 inM_8 (by decide) (mc wd_79) rfl dX8_chargeAt_19 ?_
      refine X_icmp_lt (tgt := 27) C dX8_chargeAt_22 (by decide) hf (fun hf => ?_) (fun hf => ?_)
      · refine X_iload_n C 2 dX8_chargeAt_27 rfl rfl ?_
        refine X_sw (k0 := (0:Int32)) hf (fun e hf => ?_) (fun n0 hf => ?_)
        · refine X_tin (tgt := 68) C dX8_chargeAt_28 (by rw [e]; decide) (by rw [e]; decide) (by rw [e]; rfl) (by decide) ?_
          refine X_aload_n C 0 dX8_chargeAt_68 rfl rfl ?_
          refine X_getr C 4 sh_36 nc_8 inM_8 (by decide) (mc wd_81) rfl dX8_chargeAt_69 ?_
          refine X_iload_n C 1 dX8_chargeAt_72 rfl rfl ?_
          refine X_iald C sh_39 dX8_chargeAt_73 hf (fun hf => ?_)
          exact X_iret C dX8_chargeAt_74 hf Rr
        refine X_sw (k0 := (1:Int32)) hf (fun e hf => ?_) (fun n1 hf => ?_)
        · refine X_tin (tgt := 75) C dX8_chargeAt_28 (by rw [e]; decide) (by rw [e]; decide) (by rw [e]; rfl) (by decide) ?_
          refine X_aload_n C 0 dX8_chargeAt_75 rfl rfl ?_
          refine X_getr C 5 sh_36 nc_8 inM_8 (by decide) (mc wd_82) rfl dX8_chargeAt_76 ?_
          refine X_iload_n C 1 dX8_chargeAt_79 rfl rfl ?_
          refine X_iald C sh_40 dX8_chargeAt_80 hf (fun hf => ?_)
          exact X_iret C dX8_chargeAt_81 hf Rr
        refine X_sw (k0 := (2:Int32)) hf (fun e hf => ?_) (fun n2 hf => ?_)
        · refine X_tin (tgt := 82) C dX8_chargeAt_28 (by rw [e]; decide) (by rw [e]; decide) (by rw [e]; rfl) (by decide) ?_
          refine X_aload_n C 0 dX8_chargeAt_82 rfl rfl ?_
          refine X_getr C 6 sh_36 nc_8 inM_8 (by decide) (mc wd_83) rfl dX8_chargeAt_83 ?_
          refine X_iload_n C 1 dX8_chargeAt_86 rfl rfl ?_
          refine X_iald C sh_41 dX8_chargeAt_87 hf (fun hf => ?_)
          exact X_iret C dX8_chargeAt_88 hf Rr
        refine X_sw (k0 := (3:Int32)) hf (fun e hf => ?_) (fun n3 hf => ?_)
        · refine X_tin (tgt := 89) C dX8_chargeAt_28 (by rw [e]; decide) (by rw [e]; decide) (by rw [e]; rfl) (by decide) ?_
          refine X_aload_n C 0 dX8_chargeAt_89 rfl rfl ?_
          refine X_getr C 7 sh_36 nc_8 inM_8 (by decide) (mc wd_84) rfl dX8_chargeAt_90 ?_
          refine X_iload_n C 1 dX8_chargeAt_93 rfl rfl ?_
          refine X_iald C sh_42 dX8_chargeAt_94 hf (fun hf => ?_)
          exact X_iret C dX8_chargeAt_95 hf Rr
        refine X_sw (k0 := (4:Int32)) hf (fun e hf => ?_) (fun n4 hf => ?_)
        · refine X_tin (tgt := 96) C dX8_chargeAt_28 (by rw [e]; decide) (by rw [e]; decide) (by rw [e]; rfl) (by decide) ?_
          refine X_aload_n C 0 dX8_chargeAt_96 rfl rfl ?_
          refine X_getr C 8 sh_36 nc_8 inM_8 (by decide) (mc wd_85) rfl dX8_chargeAt_97 ?_
          refine X_iload_n C 1 dX8_chargeAt_100 rfl rfl ?_
          refine X_iald C sh_43 dX8_chargeAt_101 hf (fun hf => ?_)
          exact X_iret C dX8_chargeAt_102 hf Rr
        refine X_sw (k0 := (5:Int32)) hf (fun e hf => ?_) (fun n5 hf => ?_)
        · refine X_tin (tgt := 103) C dX8_chargeAt_28 (by rw [e]; decide) (by rw [e]; decide) (by rw [e]; rfl) (by decide) ?_
          refine X_aload_n C 0 dX8_chargeAt_103 rfl rfl ?_
          refine X_getr C 9 sh_36 nc_8 inM_8 (by decide) (mc wd_86) rfl dX8_chargeAt_104 ?_
          refine X_iload_n C 1 dX8_chargeAt_107 rfl rfl ?_
          refine X_iald C sh_44 dX8_chargeAt_108 hf (fun hf => ?_)
          exact X_iret C dX8_chargeAt_109 hf Rr
        refine X_tout (tgt := 110) C dX8_chargeAt_28 (by have := lv_neT n0 (show (0:Int32).toInt = 0 from by decide); have := lv_neT n1 (show (1:Int32).toInt = 1 from by decide); have := lv_neT n2 (show (2:Int32).toInt = 2 from by decide); have := lv_neT n3 (show (3:Int32).toInt = 3 from by decide); have := lv_neT n4 (show (4:Int32).toInt = 4 from by decide); have := lv_neT n5 (show (5:Int32).toInt = 5 from by decide); omega) (by decide) ?_
        refine X_aload_n C 0 dX8_chargeAt_110 rfl rfl ?_
        refine X_getr C 10 sh_36 nc_8 inM_8 (by decide) (mc wd_87) rfl dX8_chargeAt_111 ?_
        refine X_iload_n C 1 dX8_chargeAt_114 rfl rfl ?_
        refine X_iald C sh_45 dX8_chargeAt_115 hf (fun hf => ?_)
        exact X_iret C dX8_chargeAt_116 hf Rr
      · refine X_iconst (v := (-1:Int32)) C dX8_chargeAt_25 (by decide) ?_
        exact X_iret C dX8_chargeAt_26 hf Rr
    · refine X_bipush (v := (-2:Int32)) C dX8_chargeAt_14 (by decide) ?_
      exact X_iret C dX8_chargeAt_16 hf Rr
def f_X8_chargeAt (s : Sg) (v1 : Int32) (v2 : Int32) : Option (Int32 × Sg) := c_X8_chargeAt_0 s v1 v2
theorem k_X8_chargeAt (s : Sg) (v1 : Int32) (v2 : Int32) (o : Int32 × Sg) (hf : f_X8_chargeAt s v1 v2 = some o) : Ctr NM yX8_chargeAt (ws_X8_chargeAt) rm_X8_chargeAt SH s [.ref 36, .int v1, .int v2] (some (.int o.1)) o.2 :=
  Ctr.of (by decide) rfl (Nat.le_of_ble_eq_true rfl) (fun X C Rr => by show XW NM X 3 0 0 SH s 0 [(0, .ref 36), (1, .int v1), (2, .int v2)] []; exact w_X8_chargeAt_0 C Rr s v1 v2 hf)
abbrev ws_X8_when : List Cond := Cond.code yX8_when cX8_when 4 (some .int) :: AW
abbrev rm_X8_when : Room := { frames := 1, cells := 0, slots := 0, locals := 22 }
def c_X8_when_62 (N : Nat) (s : Sg) (v2 : Int32) : Option (Int32 × Sg) :=
gd (!decide ((s 36 11) = 0)) (some (((v2 + (s 36 11)) - ((1:Int32))) / (s 36 11), s))
set_option maxHeartbeats 4000000 in
set_option maxRecDepth 100000 in
theorem w_X8_when_62 {X : Ctx} {N : Nat} {o : Int32 × Sg} (C : Cx NM X cX8_when 4 RX8 (ws_X8_when) (some .int) rm_X8_when) (Rr : Rx NM X 0 0 (some (.int o.1)) SH o.2) (s : Sg) (v2 : Int32) (hf : c_X8_when_62 N s v2 = some o) : XW NM X 4 0 0 SH s 62 [(0, .ref 36), (2, .int v2)] [] := by
  unfold c_X8_when_62 at hf
  refine X_iload_n C 1 dX8_when_62 rfl rfl ?_
  refine X_aload_n C 0 dX8_when_63 rfl rfl ?_
  refine X_geti C 11 sh_36 nc_8 inM_8 (by decide) (mc wd_88) rfl dX8_when_64 ?_
  refine X_iadd C dX8_when_67 ?_
  refine X_iconst (v := (1:Int32)) C dX8_when_68 (by decide) ?_
  refine X_isub C dX8_when_69 ?_
  refine X_aload_n C 0 dX8_when_70 rfl rfl ?_
  refine X_geti C 11 sh_36 nc_8 inM_8 (by decide) (mc wd_88) rfl dX8_when_71 ?_
  refine X_idiv C dX8_when_74 hf (fun hf => ?_)
  exact X_iret C dX8_when_75 hf Rr
def c_X8_when_42 (N : Nat) (K42 : Sg → Int32 → Int32 → Int32 → Option (Int32 × Sg)) (s : Sg) (v1 : Int32) (v2 : Int32) (v3 : Int32) : Option (Int32 × Sg) :=
if v1 < v3 then
 c_X8_when_62 N s v2
 else
 gd (vi v3 400) (lt_ (v2 + (s 40 v3.toNatClampNeg)) (fun x1 => K42 s v1 x1 (v3 + (1:Int32))))
set_option maxHeartbeats 4000000 in
set_option maxRecDepth 100000 in
theorem w_X8_when_42 {X : Ctx} {N : Nat} {o : Int32 × Sg} (C : Cx NM X cX8_when 4 RX8 (ws_X8_when) (some .int) rm_X8_when) (Rr : Rx NM X 0 0 (some (.int o.1)) SH o.2) {K42 : Sg → Int32 → Int32 → Int32 → Option (Int32 × Sg)} (hK42 : ∀ (s : Sg) (v1 : Int32) (v2 : Int32) (v3 : Int32), K42 s v1 v2 v3 = some o → XW NM X 4 0 0 SH s 42 [(0, .ref 36), (1, .int v1), (2, .int v2), (3, .int v3)] []) (s : Sg) (v1 : Int32) (v2 : Int32) (v3 : Int32) (hf : c_X8_when_42 N K42 s v1 v2 v3 = some o) : XW NM X 4 0 0 SH s 42 [(0, .ref 36), (1, .int v1), (2, .int v2), (3, .int v3)] [] := by
  unfold c_X8_when_42 at hf
  refine X_iload_n C 3 dX8_when_42 rfl rfl ?_
  refine X_iload_n C 1 dX8_when_43 rfl rfl ?_
  refine X_icmp_gt (tgt := 62) C dX8_when_44 (by decide) hf (fun hf => ?_) (fun hf => ?_)
  · refine X_loc (L' := [(0, .ref 36), (2, .int v2)]) [0, 2] rfl ?_
    exact w_X8_when_62 C Rr _ _ hf
  · refine X_iload_n C 2 dX8_when_47 rfl rfl ?_
    refine X_aload_n C 0 dX8_when_48 rfl rfl ?_
    refine X_getr C 5 sh_36 nc_8 inM_8 (by decide) (mc wd_82) rfl dX8_when_49 ?_
    refine X_iload_n C 3 dX8_when_52 rfl rfl ?_
    refine X_iald C sh_40 dX8_when_53 hf (fun hf => ?_)
    refine X_iadd C dX8_when_54 ?_
    refine X_nm hf (fun x1 hf => ?_)
    refine X_istore_n (L' := [(0, .ref 36), (1, .int v1), (2, .int x1), (3, .int v3)]) C [1, 2, 0, 3] dX8_when_55 rfl (by decide) rfl ?_
    refine X_iinc (v := (1:Int32)) (L' := [(0, .ref 36), (1, .int v1), (2, .int x1), (3, .int (v3 + (1:Int32)))]) C 3 [1, 2, 3, 0] dX8_when_56 rfl (by decide) (by decide) rfl ?_
    refine X_goto (tgt := 42) C dX8_when_59 (by decide) ?_
    exact hK42 _ _ _ _ hf
def b_X8_when_42 (N : Nat) : Nat → Sg → Int32 → Int32 → Int32 → Option (Int32 × Sg)
  | 0, _, _, _, _ => none
  | j + 1, s, v1, v2, v3 => c_X8_when_42 N (b_X8_when_42 N j) s v1 v2 v3
theorem h_X8_when_42 {X : Ctx} {N : Nat} {o : Int32 × Sg} (C : Cx NM X cX8_when 4 RX8 (ws_X8_when) (some .int) rm_X8_when) (Rr : Rx NM X 0 0 (some (.int o.1)) SH o.2) : ∀ (j : Nat) (s : Sg) (v1 : Int32) (v2 : Int32) (v3 : Int32), b_X8_when_42 N j s v1 v2 v3 = some o → XW NM X 4 0 0 SH s 42 [(0, .ref 36), (1, .int v1), (2, .int v2), (3, .int v3)] [] := by
  intro j
  induction j with
  | zero => intro s v1 v2 v3 hf; cases (show none = some o from hf)
  | succ j ih => intro s v1 v2 v3 hf; exact w_X8_when_42 C Rr ih s v1 v2 v3 hf
def c_X8_when_0 (N : Nat) (s : Sg) (v1 : Int32) : Option (Int32 × Sg) :=
bd (f_X8_in s v1 ((0:Int32)) ((s 36 2) - ((1:Int32)))) (fun r2 s1 => if r2 = 0 then
 some ((-2:Int32), s1)
 else
 gd (vi v1 400) (if (s1 39 v1.toNatClampNeg) = 0 then
 if (s1 36 11) = 0 then
 some ((-1:Int32), s1)
 else
 lt_ (s1 36 3) (fun x3 => b_X8_when_42 N N s1 v1 ((0:Int32)) x3)
 else
 some ((-1:Int32), s1)))
set_option maxHeartbeats 4000000 in
set_option maxRecDepth 100000 in
theorem w_X8_when_0 {X : Ctx} {N : Nat} {o : Int32 × Sg} (C : Cx NM X cX8_when 4 RX8 (ws_X8_when) (some .int) rm_X8_when) (Rr : Rx NM X 0 0 (some (.int o.1)) SH o.2) (s : Sg) (v1 : Int32) (hf : c_X8_when_0 N s v1 = some o) : XW NM X 4 0 0 SH s 0 [(0, .ref 36), (1, .int v1)] [] := by
  unfold c_X8_when_0 at hf
  refine X_iload_n C 1 dX8_when_0 rfl rfl ?_
  refine X_iconst (v := (0:Int32)) C dX8_when_1 (by decide) ?_
  refine X_aload_n C 0 dX8_when_2 rfl rfl ?_
  refine X_geti C 2 sh_36 nc_8 inM_8 (by decide) (mc wd_79) rfl dX8_when_3 ?_
  refine X_iconst (v := (1:Int32)) C dX8_when_6 (by decide) ?_
  refine X_isub C dX8_when_7 ?_
  refine X_callSi (As := [.int v1, .int ((0:Int32)), .int ((s 36 2) - ((1:Int32)))]) (rest := []) C aw_ok mcs lk_X8_123 (by decide) rfl rfl (Nat.le_of_ble_eq_true rfl) dX8_when_8 hf (fun r s h => k_X8_in _ _ _ _ (r, s) h) (fun r2 s1 hf => ?_)
  refine X_if_ne (tgt := 17) C dX8_when_11 (by decide) hf (fun hf => ?_) (fun hf => ?_)
  · refine X_aload_n C 0 dX8_when_17 rfl rfl ?_
    refine X_getr C 4 sh_36 nc_8 inM_8 (by decide) (mc wd_81) rfl dX8_when_18 ?_
    refine X_iload_n C 1 dX8_when_21 rfl rfl ?_
    refine X_iald C sh_39 dX8_when_22 hf (fun hf => ?_)
    refine X_if_ne (tgt := 33) C dX8_when_23 (by decide) hf (fun hf => ?_) (fun hf => ?_)
    · refine X_iconst (v := (-1:Int32)) C dX8_when_33 (by decide) ?_
      exact X_iret C dX8_when_34 hf Rr
    · refine X_aload_n C 0 dX8_when_26 rfl rfl ?_
      refine X_geti C 11 sh_36 nc_8 inM_8 (by decide) (mc wd_88) rfl dX8_when_27 ?_
      refine X_if_ne (tgt := 35) C dX8_when_30 (by decide) hf (fun hf => ?_) (fun hf => ?_)
      · refine X_iconst (v := (0:Int32)) C dX8_when_35 (by decide) ?_
        refine X_istore_n (L' := [(0, .ref 36), (1, .int v1), (2, .int ((0:Int32)))]) C [1, 2, 0] dX8_when_36 rfl (by decide) rfl ?_
        refine X_aload_n C 0 dX8_when_37 rfl rfl ?_
        refine X_geti C 3 sh_36 nc_8 inM_8 (by decide) (mc wd_80) rfl dX8_when_38 ?_
        refine X_nm hf (fun x3 hf => ?_)
        refine X_istore_n (L' := [(0, .ref 36), (1, .int v1), (2, .int ((0:Int32))), (3, .int x3)]) C [1, 2, 3, 0] dX8_when_41 rfl (by decide) rfl ?_
        exact h_X8_when_42 C Rr _ _ _ _ _ hf
      · refine X_iconst (v := (-1:Int32)) C dX8_when_33 (by decide) ?_
        exact X_iret C dX8_when_34 hf Rr
  · refine X_bipush (v := (-2:Int32)) C dX8_when_14 (by decide) ?_
    exact X_iret C dX8_when_16 hf Rr
def f_X8_when (N : Nat) (s : Sg) (v1 : Int32) : Option (Int32 × Sg) := c_X8_when_0 N s v1
theorem k_X8_when {N : Nat} (s : Sg) (v1 : Int32) (o : Int32 × Sg) (hf : f_X8_when N s v1 = some o) : Ctr NM yX8_when (ws_X8_when) rm_X8_when SH s [.ref 36, .int v1] (some (.int o.1)) o.2 :=
  Ctr.of (by decide) rfl (Nat.le_of_ble_eq_true rfl) (fun X C Rr => by show XW NM X 4 0 0 SH s 0 [(0, .ref 36), (1, .int v1)] []; exact w_X8_when_0 C Rr s v1 hf)
abbrev ws_X8_blast : List Cond := Cond.code yX8_blast cX8_blast 3 (some .int) :: AW
abbrev rm_X8_blast : Room := { frames := 1, cells := 0, slots := 0, locals := 22 }
def c_X8_blast_0 (s : Sg) (v1 : Int32) : Option (Int32 × Sg) :=
bd (f_X8_in s v1 ((0:Int32)) ((20:Int32))) (fun r2 s1 => if r2 = 0 then
 some ((-2:Int32), s1)
 else
 lt_ (s1 36 11) (fun x3 => lt_ (sgu s1 36 11 v1) (fun s4 => some (x3, s4))))
set_option maxHeartbeats 4000000 in
set_option maxRecDepth 100000 in
theorem w_X8_blast_0 {X : Ctx} {o : Int32 × Sg} (C : Cx NM X cX8_blast 3 RX8 (ws_X8_blast) (some .int) rm_X8_blast) (Rr : Rx NM X 0 0 (some (.int o.1)) SH o.2) (s : Sg) (v1 : Int32) (hf : c_X8_blast_0 s v1 = some o) : XW NM X 3 0 0 SH s 0 [(0, .ref 36), (1, .int v1)] [] := by
  unfold c_X8_blast_0 at hf
  refine X_iload_n C 1 dX8_blast_0 rfl rfl ?_
  refine X_iconst (v := (0:Int32)) C dX8_blast_1 (by decide) ?_
  refine X_bipush (v := (20:Int32)) C dX8_blast_2 (by decide) ?_
  refine X_callSi (As := [.int v1, .int ((0:Int32)), .int ((20:Int32))]) (rest := []) C aw_ok mcs lk_X8_123 (by decide) rfl rfl (Nat.le_of_ble_eq_true rfl) dX8_blast_4 hf (fun r s h => k_X8_in _ _ _ _ (r, s) h) (fun r2 s1 hf => ?_)
  refine X_if_ne (tgt := 13) C dX8_blast_7 (by decide) hf (fun hf => ?_) (fun hf => ?_)
  · refine X_aload_n C 0 dX8_blast_13 rfl rfl ?_
    refine X_geti C 11 sh_36 nc_8 inM_8 (by decide) (mc wd_88) rfl dX8_blast_14 ?_
    refine X_nm hf (fun x3 hf => ?_)
    refine X_istore_n (L' := [(0, .ref 36), (1, .int v1), (2, .int x3)]) C [1, 2, 0] dX8_blast_17 rfl (by decide) rfl ?_
    refine X_aload_n C 0 dX8_blast_18 rfl rfl ?_
    refine X_iload_n C 1 dX8_blast_19 rfl rfl ?_
    refine X_puti C 11 sh_36 nc_8 inM_8 (by decide) tyX8 tyX8_ok nmX8 (mc wd_88) rfl (by decide +kernel) rfl dX8_blast_20 hf (fun s4 hf => ?_)
    refine X_iload_n C 2 dX8_blast_23 rfl rfl ?_
    exact X_iret C dX8_blast_24 hf Rr
  · refine X_bipush (v := (-2:Int32)) C dX8_blast_10 (by decide) ?_
    exact X_iret C dX8_blast_12 hf Rr
def f_X8_blast (s : Sg) (v1 : Int32) : Option (Int32 × Sg) := c_X8_blast_0 s v1
theorem k_X8_blast (s : Sg) (v1 : Int32) (o : Int32 × Sg) (hf : f_X8_blast s v1 = some o) : Ctr NM yX8_blast (ws_X8_blast) rm_X8_blast SH s [.ref 36, .int v1] (some (.int o.1)) o.2 :=
  Ctr.of (by decide) rfl (Nat.le_of_ble_eq_true rfl) (fun X C Rr => by show XW NM X 3 0 0 SH s 0 [(0, .ref 36), (1, .int v1)] []; exact w_X8_blast_0 C Rr s v1 hf)
abbrev ws_X8_hearth : List Cond := Cond.code yX8_hearth cX8_hearth 3 (some .int) :: AW
abbrev rm_X8_hearth : Room := { frames := 1, cells := 0, slots := 0, locals := 22 }
def c_X8_hearth_0 (s : Sg) (v1 : Int32) (v2 : Int32) : Option (Int32 × Sg) :=
bd (f_X8_in s v1 ((1:Int32)) ((500:Int32))) (fun r2 s1 => if r2 = 0 then
 some ((-2:Int32), s1)
 else
 bd (f_X8_in s1 v2 ((1:Int32)) ((100000:Int32))) (fun r4 s3 => if r4 = 0 then
 some ((-2:Int32), s3)
 else
 lt_ (sgu s3 36 12 v1) (fun s5 => lt_ (sgu s5 36 13 v2) (fun s6 => some ((1:Int32), s6)))))
set_option maxHeartbeats 4000000 in
set_option maxRecDepth 100000 in
theorem w_X8_hearth_0 {X : Ctx} {o : Int32 × Sg} (C : Cx NM X cX8_hearth 3 RX8 (ws_X8_hearth) (some .int) rm_X8_hearth) (Rr : Rx NM X 0 0 (some (.int o.1)) SH o.2) (s : Sg) (v1 : Int32) (v2 : Int32) (hf : c_X8_hearth_0 s v1 v2 = some o) : XW NM X 3 0 0 SH s 0 [(0, .ref 36), (1, .int v1), (2, .int v2)] [] := by
  unfold c_X8_hearth_0 at hf
  refine X_iload_n C 1 dX8_hearth_0 rfl rfl ?_
  refine X_iconst (v := (1:Int32)) C dX8_hearth_1 (by decide) ?_
  refine X_sipush (v := (500:Int32)) C dX8_hearth_2 (by decide) ?_
  refine X_callSi (As := [.int v1, .int ((1:Int32)), .int ((500:Int32))]) (rest := []) C aw_ok mcs lk_X8_123 (by decide) rfl rfl (Nat.le_of_ble_eq_true rfl) dX8_hearth_5 hf (fun r s h => k_X8_in _ _ _ _ (r, s) h) (fun r2 s1 hf => ?_)
  refine X_if_eq (tgt := 21) C dX8_hearth_8 (by decide) hf (fun hf => ?_) (fun hf => ?_)
  · refine X_bipush (v := (-2:Int32)) C dX8_hearth_21 (by decide) ?_
    exact X_iret C dX8_hearth_23 hf Rr
  · refine X_iload_n C 2 dX8_hearth_11 rfl rfl ?_
    refine X_iconst (v := (1:Int32)) C dX8_hearth_12 (by decide) ?_
    refine X_ldc (v := (100000:Int32)) C (mc wd_89) dX8_hearth_13 ?_
    refine X_callSi (As := [.int v2, .int ((1:Int32)), .int ((100000:Int32))]) (rest := []) C aw_ok mcs lk_X8_123 (by decide) rfl rfl (Nat.le_of_ble_eq_true rfl) dX8_hearth_15 hf (fun r s h => k_X8_in _ _ _ _ (r, s) h) (fun r4 s3 hf => ?_)
    refine X_if_ne (tgt := 24) C dX8_hearth_18 (by decide) hf (fun hf => ?_) (fun hf => ?_)
    · refine X_aload_n C 0 dX8_hearth_24 rfl rfl ?_
      refine X_iload_n C 1 dX8_hearth_25 rfl rfl ?_
      refine X_puti C 12 sh_36 nc_8 inM_8 (by decide) tyX8 tyX8_ok nmX8 (mc wd_90) rfl (by decide +kernel) rfl dX8_hearth_26 hf (fun s5 hf => ?_)
      refine X_aload_n C 0 dX8_hearth_29 rfl rfl ?_
      refine X_iload_n C 2 dX8_hearth_30 rfl rfl ?_
      refine X_puti C 13 sh_36 nc_8 inM_8 (by decide) tyX8 tyX8_ok nmX8 (mc wd_91) rfl (by decide +kernel) rfl dX8_hearth_31 hf (fun s6 hf => ?_)
      refine X_iconst (v := (1:Int32)) C dX8_hearth_34 (by decide) ?_
      exact X_iret C dX8_hearth_35 hf Rr
    · refine X_bipush (v := (-2:Int32)) C dX8_hearth_21 (by decide) ?_
      exact X_iret C dX8_hearth_23 hf Rr
def f_X8_hearth (s : Sg) (v1 : Int32) (v2 : Int32) : Option (Int32 × Sg) := c_X8_hearth_0 s v1 v2
theorem k_X8_hearth (s : Sg) (v1 : Int32) (v2 : Int32) (o : Int32 × Sg) (hf : f_X8_hearth s v1 v2 = some o) : Ctr NM yX8_hearth (ws_X8_hearth) rm_X8_hearth SH s [.ref 36, .int v1, .int v2] (some (.int o.1)) o.2 :=
  Ctr.of (by decide) rfl (Nat.le_of_ble_eq_true rfl) (fun X C Rr => by show XW NM X 3 0 0 SH s 0 [(0, .ref 36), (1, .int v1), (2, .int v2)] []; exact w_X8_hearth_0 C Rr s v1 v2 hf)
abbrev ws_X8_tap : List Cond := Cond.code yX8_tap cX8_tap 1 (some .int) :: AW
abbrev rm_X8_tap : Room := { frames := 0, cells := 0, slots := 0, locals := 0 }
def c_X8_tap_0 (s : Sg) : Option (Int32 × Sg) :=
if (s 36 15) = 0 then
 some ((-1:Int32), s)
 else
 if (s 36 27) = ((60:Int32)) then
 some ((-4:Int32), s)
 else
 gd (vi (s 36 27) 60) (lt_ (sgu s 46 (s 36 27).toNatClampNeg (s 36 15)) (fun s1 => gd (vi (s1 36 27) 60) (lt_ (sgu s1 47 (s1 36 27).toNatClampNeg (s1 36 24)) (fun s2 => gd (vi (s2 36 27) 60) (lt_ (sgu s2 48 (s2 36 27).toNatClampNeg (s2 36 25)) (fun s3 => gd (vi (s3 36 27) 60) (lt_ (sgu s3 49 (s3 36 27).toNatClampNeg (s3 36 26)) (fun s4 => gd (vi (s4 36 27) 60) (lt_ (sgu s4 50 (s4 36 27).toNatClampNeg (s4 36 18)) (fun s5 => gd (vi (s5 36 27) 60) (lt_ (sgu s5 51 (s5 36 27).toNatClampNeg ((-1:Int32))) (fun s6 => lt_ (sgu s6 36 27 ((s6 36 27) + ((1:Int32)))) (fun s7 => lt_ (sgu s7 36 15 ((0:Int32))) (fun s8 => lt_ (sgu s8 36 24 ((-1:Int32))) (fun s9 => lt_ (sgu s9 36 25 ((-1:Int32))) (fun s10 => lt_ (sgu s10 36 26 ((-1:Int32))) (fun s11 => some ((s11 36 27) - ((1:Int32)), s11))))))))))))))))))
set_option maxHeartbeats 4000000 in
set_option maxRecDepth 100000 in
theorem w_X8_tap_0 {X : Ctx} {o : Int32 × Sg} (C : Cx NM X cX8_tap 1 RX8 (ws_X8_tap) (some .int) rm_X8_tap) (Rr : Rx NM X 0 0 (some (.int o.1)) SH o.2) (s : Sg) (hf : c_X8_tap_0 s = some o) : XW NM X 1 0 0 SH s 0 [(0, .ref 36)] [] := by
  unfold c_X8_tap_0 at hf
  refine X_aload_n C 0 dX8_tap_0 rfl rfl ?_
  refine X_geti C 15 sh_36 nc_8 inM_8 (by decide) (mc wd_92) rfl dX8_tap_1 ?_
  refine X_if_ne (tgt := 9) C dX8_tap_4 (by decide) hf (fun hf => ?_) (fun hf => ?_)
  · refine X_aload_n C 0 dX8_tap_9 rfl rfl ?_
    refine X_geti C 27 sh_36 nc_8 inM_8 (by decide) (mc wd_93) rfl dX8_tap_10 ?_
    refine X_bipush (v := (60:Int32)) C dX8_tap_13 (by decide) ?_
    refine X_icmp_ne (tgt := 21) C dX8_tap_15 (by decide) hf (fun hf => ?_) (fun hf => ?_)
    · refine X_aload_n C 0 dX8_tap_21 rfl rfl ?_
      refine X_getr C 28 sh_36 nc_8 inM_8 (by decide) (mc wd_94) rfl dX8_tap_22 ?_
      refine X_aload_n C 0 dX8_tap_25 rfl rfl ?_
      refine X_geti C 27 sh_36 nc_8 inM_8 (by decide) (mc wd_93) rfl dX8_tap_26 ?_
      refine X_aload_n C 0 dX8_tap_29 rfl rfl ?_
      refine X_geti C 15 sh_36 nc_8 inM_8 (by decide) (mc wd_92) rfl dX8_tap_30 ?_
      refine X_iast C sh_46 dX8_tap_33 hf (fun s1 hf => ?_)
      refine X_aload_n C 0 dX8_tap_34 rfl rfl ?_
      refine X_getr C 29 sh_36 nc_8 inM_8 (by decide) (mc wd_95) rfl dX8_tap_35 ?_
      refine X_aload_n C 0 dX8_tap_38 rfl rfl ?_
      refine X_geti C 27 sh_36 nc_8 inM_8 (by decide) (mc wd_93) rfl dX8_tap_39 ?_
      refine X_aload_n C 0 dX8_tap_42 rfl rfl ?_
      refine X_geti C 24 sh_36 nc_8 inM_8 (by decide) (mc wd_96) rfl dX8_tap_43 ?_
      refine X_iast C sh_47 dX8_tap_46 hf (fun s2 hf => ?_)
      refine X_aload_n C 0 dX8_tap_47 rfl rfl ?_
      refine X_getr C 30 sh_36 nc_8 inM_8 (by decide) (mc wd_97) rfl dX8_tap_48 ?_
      refine X_aload_n C 0 dX8_tap_51 rfl rfl ?_
      refine X_geti C 27 sh_36 nc_8 inM_8 (by decide) (mc wd_93) rfl dX8_tap_52 ?_
      refine X_aload_n C 0 dX8_tap_55 rfl rfl ?_
      refine X_geti C 25 sh_36 nc_8 inM_8 (by decide) (mc wd_98) rfl dX8_tap_56 ?_
      refine X_iast C sh_48 dX8_tap_59 hf (fun s3 hf => ?_)
      refine X_aload_n C 0 dX8_tap_60 rfl rfl ?_
      refine X_getr C 31 sh_36 nc_8 inM_8 (by decide) (mc wd_99) rfl dX8_tap_61 ?_
      refine X_aload_n C 0 dX8_tap_64 rfl rfl ?_
      refine X_geti C 27 sh_36 nc_8 inM_8 (by decide) (mc wd_93) rfl dX8_tap_65 ?_
      refine X_aload_n C 0 dX8_tap_68 rfl rfl ?_
      refine X_geti C 26 sh_36 nc_8 inM_8 (by decide) (mc wd_100) rfl dX8_tap_69 ?_
      refine X_iast C sh_49 dX8_tap_72 hf (fun s4 hf => ?_)
      refine X_aload_n C 0 dX8_tap_73 rfl rfl ?_
      refine X_getr C 32 sh_36 nc_8 inM_8 (by decide) (mc wd_101) rfl dX8_tap_74 ?_
      refine X_aload_n C 0 dX8_tap_77 rfl rfl ?_
      refine X_geti C 27 sh_36 nc_8 inM_8 (by decide) (mc wd_93) rfl dX8_tap_78 ?_
      refine X_aload_n C 0 dX8_tap_81 rfl rfl ?_
      refine X_geti C 18 sh_36 nc_8 inM_8 (by decide) (mc wd_102) rfl dX8_tap_82 ?_
      refine X_iast C sh_50 dX8_tap_85 hf (fun s5 hf => ?_)
      refine X_aload_n C 0 dX8_tap_86 rfl rfl ?_
      refine X_getr C 33 sh_36 nc_8 inM_8 (by decide) (mc wd_103) rfl dX8_tap_87 ?_
      refine X_aload_n C 0 dX8_tap_90 rfl rfl ?_
      refine X_geti C 27 sh_36 nc_8 inM_8 (by decide) (mc wd_93) rfl dX8_tap_91 ?_
      refine X_iconst (v := (-1:Int32)) C dX8_tap_94 (by decide) ?_
      refine X_iast C sh_51 dX8_tap_95 hf (fun s6 hf => ?_)
      refine X_aload_n C 0 dX8_tap_96 rfl rfl ?_
      refine X_dup C dX8_tap_97 rfl ?_
      refine X_geti C 27 sh_36 nc_8 inM_8 (by decide) (mc wd_93) rfl dX8_tap_98 ?_
      refine X_iconst (v := (1:Int32)) C dX8_tap_101 (by decide) ?_
      refine X_iadd C dX8_tap_102 ?_
      refine X_puti C 27 sh_36 nc_8 inM_8 (by decide) tyX8 tyX8_ok nmX8 (mc wd_93) rfl (by decide +kernel) rfl dX8_tap_103 hf (fun s7 hf => ?_)
      refine X_aload_n C 0 dX8_tap_106 rfl rfl ?_
      refine X_iconst (v := (0:Int32)) C dX8_tap_107 (by decide) ?_
      refine X_puti C 15 sh_36 nc_8 inM_8 (by decide) tyX8 tyX8_ok nmX8 (mc wd_92) rfl (by decide +kernel) rfl dX8_tap_108 hf (fun s8 hf => ?_)
      refine X_aload_n C 0 dX8_tap_111 rfl rfl ?_
      refine X_iconst (v := (-1:Int32)) C dX8_tap_112 (by decide) ?_
      refine X_puti C 24 sh_36 nc_8 inM_8 (by decide) tyX8 tyX8_ok nmX8 (mc wd_96) rfl (by decide +kernel) rfl dX8_tap_113 hf (fun s9 hf => ?_)
      refine X_aload_n C 0 dX8_tap_116 rfl rfl ?_
      refine X_iconst (v := (-1:Int32)) C dX8_tap_117 (by decide) ?_
      refine X_puti C 25 sh_36 nc_8 inM_8 (by decide) tyX8 tyX8_ok nmX8 (mc wd_98) rfl (by decide +kernel) rfl dX8_tap_118 hf (fun s10 hf => ?_)
      refine X_aload_n C 0 dX8_tap_121 rfl rfl ?_
      refine X_iconst (v := (-1:Int32)) C dX8_tap_122 (by decide) ?_
      refine X_puti C 26 sh_36 nc_8 inM_8 (by decide) tyX8 tyX8_ok nmX8 (mc wd_100) rfl (by decide +kernel) rfl dX8_tap_123 hf (fun s11 hf => ?_)
      refine X_aload_n C 0 dX8_tap_126 rfl rfl ?_
      refine X_geti C 27 sh_36 nc_8 inM_8 (by decide) (mc wd_93) rfl dX8_tap_127 ?_
      refine X_iconst (v := (1:Int32)) C dX8_tap_130 (by decide) ?_
      refine X_isub C dX8_tap_131 ?_
      exact X_iret C dX8_tap_132 hf Rr
    · refine X_bipush (v := (-4:Int32)) C dX8_tap_18 (by decide) ?_
      exact X_iret C dX8_tap_20 hf Rr
  · refine X_iconst (v := (-1:Int32)) C dX8_tap_7 (by decide) ?_
    exact X_iret C dX8_tap_8 hf Rr
def f_X8_tap (s : Sg) : Option (Int32 × Sg) := c_X8_tap_0 s
theorem k_X8_tap (s : Sg) (o : Int32 × Sg) (hf : f_X8_tap s = some o) : Ctr NM yX8_tap (ws_X8_tap) rm_X8_tap SH s [.ref 36] (some (.int o.1)) o.2 :=
  Ctr.of (by decide) rfl (Nat.le_of_ble_eq_true rfl) (fun X C Rr => by show XW NM X 1 0 0 SH s 0 [(0, .ref 36)] []; exact w_X8_tap_0 C Rr s hf)
abbrev ws_X8_act : List Cond := Cond.code yX8_act cX8_act 3 none :: AW
abbrev rm_X8_act : Room := { frames := 1, cells := 0, slots := 0, locals := 20 }
def c_X8_act_54 (s : Sg) (u1 : Int32) : Option (Sg) :=
lt_ (sgu s 36 11 u1) (fun s1 => some s1)
set_option maxHeartbeats 4000000 in
set_option maxRecDepth 100000 in
theorem w_X8_act_54 {X : Ctx} {o : Sg} (C : Cx NM X cX8_act 3 RX8 (ws_X8_act) none rm_X8_act) (Rr : Rx NM X 0 0 none SH o) (s : Sg) (u1 : Int32) (hf : c_X8_act_54 s u1 = some o) : XW NM X 3 0 0 SH s 54 [] [.int u1, .ref 36] := by
  unfold c_X8_act_54 at hf
  refine X_puti C 11 sh_36 nc_8 inM_8 (by decide) tyX8 tyX8_ok nmX8 (mc wd_88) rfl (by decide +kernel) rfl dX8_act_54 hf (fun s1 hf => ?_)
  refine X_goto (tgt := 65) C dX8_act_57 (by decide) ?_
  exact X_vret C dX8_act_65 hf Rr
def c_X8_act_25 (s : Sg) (u1 : Int32) : Option (Sg) :=
lt_ (sgu s 36 11 u1) (fun s1 => some s1)
set_option maxHeartbeats 4000000 in
set_option maxRecDepth 100000 in
theorem w_X8_act_25 {X : Ctx} {o : Sg} (C : Cx NM X cX8_act 3 RX8 (ws_X8_act) none rm_X8_act) (Rr : Rx NM X 0 0 none SH o) (s : Sg) (u1 : Int32) (hf : c_X8_act_25 s u1 = some o) : XW NM X 3 0 0 SH s 25 [] [.int u1, .ref 36] := by
  unfold c_X8_act_25 at hf
  refine X_puti C 11 sh_36 nc_8 inM_8 (by decide) tyX8 tyX8_ok nmX8 (mc wd_88) rfl (by decide +kernel) rfl dX8_act_25 hf (fun s1 hf => ?_)
  refine X_goto (tgt := 65) C dX8_act_28 (by decide) ?_
  exact X_vret C dX8_act_65 hf Rr
def c_X8_act_0 (s : Sg) (v1 : Int32) : Option (Sg) :=
if v1 = 0 then
 if ((20:Int32)) ≤ (s 36 11) then
 c_X8_act_25 s ((20:Int32))
 else
 c_X8_act_25 s ((s 36 11) + ((1:Int32)))
 else
 if v1 = ((1:Int32)) then
 if (s 36 11) ≤ 0 then
 c_X8_act_54 s ((0:Int32))
 else
 c_X8_act_54 s ((s 36 11) - ((1:Int32)))
 else
 bd (f_X8_tap s) (fun r2 s1 => some s1)
set_option maxHeartbeats 4000000 in
set_option maxRecDepth 100000 in
theorem w_X8_act_0 {X : Ctx} {o : Sg} (C : Cx NM X cX8_act 3 RX8 (ws_X8_act) none rm_X8_act) (Rr : Rx NM X 0 0 none SH o) (s : Sg) (v1 : Int32) (hf : c_X8_act_0 s v1 = some o) : XW NM X 3 0 0 SH s 0 [(0, .ref 36), (1, .int v1)] [] := by
  unfold c_X8_act_0 at hf
  refine X_iload_n C 1 dX8_act_0 rfl rfl ?_
  refine X_if_ne (tgt := 31) C dX8_act_1 (by decide) hf (fun hf => ?_) (fun hf => ?_)
  · refine X_iload_n C 1 dX8_act_31 rfl rfl ?_
    refine X_iconst (v := (1:Int32)) C dX8_act_32 (by decide) ?_
    refine X_icmp_ne (tgt := 60) C dX8_act_33 (by decide) hf (fun hf => ?_) (fun hf => ?_)
    · refine X_aload_n C 0 dX8_act_60 rfl rfl ?_
      refine X_callVi (As := []) (rest := []) C aw_ok mcs lk_X8_137 sh_36 nc_8 (by decide) rfl rfl (Nat.le_of_ble_eq_true rfl) dX8_act_61 hf (fun r s h => k_X8_tap _ (r, s) h) (fun r2 s1 hf => ?_)
      refine X_istore_n (L' := [(0, .ref 36), (1, .int v1), (2, .int r2)]) C [1, 2, 0] dX8_act_64 rfl (by decide) rfl ?_
      exact X_vret C dX8_act_65 hf Rr
    · refine X_aload_n C 0 dX8_act_36 rfl rfl ?_
      refine X_aload_n C 0 dX8_act_37 rfl rfl ?_
      refine X_geti C 11 sh_36 nc_8 inM_8 (by decide) (mc wd_88) rfl dX8_act_38 ?_
      refine X_if_le (tgt := 53) C dX8_act_41 (by decide) hf (fun hf => ?_) (fun hf => ?_)
      · refine X_iconst (v := (0:Int32)) C dX8_act_53 (by decide) ?_
        refine X_loc (L' := []) [] rfl ?_
        exact w_X8_act_54 C Rr _ _ hf
      · refine X_aload_n C 0 dX8_act_44 rfl rfl ?_
        refine X_geti C 11 sh_36 nc_8 inM_8 (by decide) (mc wd_88) rfl dX8_act_45 ?_
        refine X_iconst (v := (1:Int32)) C dX8_act_48 (by decide) ?_
        refine X_isub C dX8_act_49 ?_
        refine X_goto (tgt := 54) C dX8_act_50 (by decide) ?_
        refine X_loc (L' := []) [] rfl ?_
        exact w_X8_act_54 C Rr _ _ hf
  · refine X_aload_n C 0 dX8_act_4 rfl rfl ?_
    refine X_aload_n C 0 dX8_act_5 rfl rfl ?_
    refine X_geti C 11 sh_36 nc_8 inM_8 (by decide) (mc wd_88) rfl dX8_act_6 ?_
    refine X_bipush (v := (20:Int32)) C dX8_act_9 (by decide) ?_
    refine X_icmp_ge (tgt := 23) C dX8_act_11 (by decide) hf (fun hf => ?_) (fun hf => ?_)
    · refine X_bipush (v := (20:Int32)) C dX8_act_23 (by decide) ?_
      refine X_loc (L' := []) [] rfl ?_
      exact w_X8_act_25 C Rr _ _ hf
    · refine X_aload_n C 0 dX8_act_14 rfl rfl ?_
      refine X_geti C 11 sh_36 nc_8 inM_8 (by decide) (mc wd_88) rfl dX8_act_15 ?_
      refine X_iconst (v := (1:Int32)) C dX8_act_18 (by decide) ?_
      refine X_iadd C dX8_act_19 ?_
      refine X_goto (tgt := 25) C dX8_act_20 (by decide) ?_
      refine X_loc (L' := []) [] rfl ?_
      exact w_X8_act_25 C Rr _ _ hf
def f_X8_act (s : Sg) (v1 : Int32) : Option (Sg) := c_X8_act_0 s v1
theorem k_X8_act (s : Sg) (v1 : Int32) (o : Sg) (hf : f_X8_act s v1 = some o) : Ctr NM yX8_act (ws_X8_act) rm_X8_act SH s [.ref 36, .int v1] none o :=
  Ctr.of (by decide) rfl (Nat.le_of_ble_eq_true rfl) (fun X C Rr => by show XW NM X 3 0 0 SH s 0 [(0, .ref 36), (1, .int v1)] []; exact w_X8_act_0 C Rr s v1 hf)
abbrev ws_X8_comesDown : List Cond := Cond.code yX8_comesDown cX8_comesDown 2 none :: AW
abbrev rm_X8_comesDown : Room := { frames := 0, cells := 0, slots := 0, locals := 0 }
def c_X8_comesDown_256 (s : Sg) (v1 : Int32) (u1 : Int32) : Option (Sg) :=
lt_ (sgu s 36 25 u1) (fun s1 => lt_ (sgu s1 36 26 v1) (fun s2 => some s2))
set_option maxHeartbeats 4000000 in
set_option maxRecDepth 100000 in
theorem w_X8_comesDown_256 {X : Ctx} {o : Sg} (C : Cx NM X cX8_comesDown 2 RX8 (ws_X8_comesDown) none rm_X8_comesDown) (Rr : Rx NM X 0 0 none SH o) (s : Sg) (v1 : Int32) (u1 : Int32) (hf : c_X8_comesDown_256 s v1 u1 = some o) : XW NM X 2 0 0 SH s 256 [(0, .ref 36), (1, .int v1)] [.int u1, .ref 36] := by
  unfold c_X8_comesDown_256 at hf
  refine X_puti C 25 sh_36 nc_8 inM_8 (by decide) tyX8 tyX8_ok nmX8 (mc wd_98) rfl (by decide +kernel) rfl dX8_comesDown_256 hf (fun s1 hf => ?_)
  refine X_aload_n C 0 dX8_comesDown_259 rfl rfl ?_
  refine X_iload_n C 1 dX8_comesDown_260 rfl rfl ?_
  refine X_puti C 26 sh_36 nc_8 inM_8 (by decide) tyX8 tyX8_ok nmX8 (mc wd_100) rfl (by decide +kernel) rfl dX8_comesDown_261 hf (fun s2 hf => ?_)
  refine X_goto (tgt := 306) C dX8_comesDown_264 (by decide) ?_
  exact X_vret C dX8_comesDown_306 hf Rr
def c_X8_comesDown_236 (s : Sg) (v1 : Int32) (u1 : Int32) : Option (Sg) :=
lt_ (sgu s 36 24 u1) (fun s1 => if (s1 36 25) = ((-1:Int32)) then
 c_X8_comesDown_256 s1 v1 v1
 else
 c_X8_comesDown_256 s1 v1 (s1 36 25))
set_option maxHeartbeats 4000000 in
set_option maxRecDepth 100000 in
theorem w_X8_comesDown_236 {X : Ctx} {o : Sg} (C : Cx NM X cX8_comesDown 2 RX8 (ws_X8_comesDown) none rm_X8_comesDown) (Rr : Rx NM X 0 0 none SH o) (s : Sg) (v1 : Int32) (u1 : Int32) (hf : c_X8_comesDown_236 s v1 u1 = some o) : XW NM X 2 0 0 SH s 236 [(0, .ref 36), (1, .int v1)] [.int u1, .ref 36] := by
  unfold c_X8_comesDown_236 at hf
  refine X_puti C 24 sh_36 nc_8 inM_8 (by decide) tyX8 tyX8_ok nmX8 (mc wd_96) rfl (by decide +kernel) rfl dX8_comesDown_236 hf (fun s1 hf => ?_)
  refine X_aload_n C 0 dX8_comesDown_239 rfl rfl ?_
  refine X_aload_n C 0 dX8_comesDown_240 rfl rfl ?_
  refine X_geti C 25 sh_36 nc_8 inM_8 (by decide) (mc wd_98) rfl dX8_comesDown_241 ?_
  refine X_iconst (v := (-1:Int32)) C dX8_comesDown_244 (by decide) ?_
  refine X_icmp_ne (tgt := 252) C dX8_comesDown_245 (by decide) hf (fun hf => ?_) (fun hf => ?_)
  · refine X_aload_n C 0 dX8_comesDown_252 rfl rfl ?_
    refine X_geti C 25 sh_36 nc_8 inM_8 (by decide) (mc wd_98) rfl dX8_comesDown_253 ?_
    exact w_X8_comesDown_256 C Rr _ _ _ hf
  · refine X_iload_n C 1 dX8_comesDown_248 rfl rfl ?_
    refine X_goto (tgt := 256) C dX8_comesDown_249 (by decide) ?_
    exact w_X8_comesDown_256 C Rr _ _ _ hf
def c_X8_comesDown_223 (s : Sg) (v1 : Int32) : Option (Sg) :=
gd (vi v1 400) (c_X8_comesDown_236 s v1 (s 44 v1.toNatClampNeg))
set_option maxHeartbeats 4000000 in
set_option maxRecDepth 100000 in
theorem w_X8_comesDown_223 {X : Ctx} {o : Sg} (C : Cx NM X cX8_comesDown 2 RX8 (ws_X8_comesDown) none rm_X8_comesDown) (Rr : Rx NM X 0 0 none SH o) (s : Sg) (v1 : Int32) (hf : c_X8_comesDown_223 s v1 = some o) : XW NM X 2 0 0 SH s 223 [(0, .ref 36), (1, .int v1)] [.ref 36] := by
  unfold c_X8_comesDown_223 at hf
  refine X_aload_n C 0 dX8_comesDown_223 rfl rfl ?_
  refine X_getr C 9 sh_36 nc_8 inM_8 (by decide) (mc wd_86) rfl dX8_comesDown_224 ?_
  refine X_iload_n C 1 dX8_comesDown_227 rfl rfl ?_
  refine X_iald C sh_44 dX8_comesDown_228 hf (fun hf => ?_)
  refine X_goto (tgt := 236) C dX8_comesDown_229 (by decide) ?_
  exact w_X8_comesDown_236 C Rr _ _ _ hf
def c_X8_comesDown_123 (s : Sg) (v1 : Int32) (u1 : Int32) (u2 : Int32) (u3 : Int32) : Option (Sg) :=
gd (vi u1 400) (lt_ (sgu s 44 u1.toNatClampNeg (u2 + u3)) (fun s1 => gd (vi v1 400) (lt_ (sgu s1 36 15 ((s1 36 15) + (s1 45 v1.toNatClampNeg))) (fun s2 => gd (vi v1 400) (lt_ (sgu s2 36 22 ((s2 36 22) + (s2 45 v1.toNatClampNeg))) (fun s3 => gd (vi v1 400) (gd (vi v1 400) (gd (vi v1 400) (lt_ (sgu s3 36 16 ((s3 36 16) + (((s3 41 v1.toNatClampNeg) - (s3 45 v1.toNatClampNeg)) + (s3 42 v1.toNatClampNeg)))) (fun s4 => gd (vi v1 400) (lt_ (sgu s4 36 14 ((s4 36 14) - (((5:Int32)) * (s4 41 v1.toNatClampNeg)))) (fun s5 => if (s5 36 24) = ((-1:Int32)) then
 c_X8_comesDown_223 s5 v1
 else
 gd (vi v1 400) (if (s5 36 24) ≤ (s5 44 v1.toNatClampNeg) then
 c_X8_comesDown_236 s5 v1 (s5 36 24)
 else
 c_X8_comesDown_223 s5 v1)))))))))))))
set_option maxHeartbeats 4000000 in
set_option maxRecDepth 100000 in
theorem w_X8_comesDown_123 {X : Ctx} {o : Sg} (C : Cx NM X cX8_comesDown 2 RX8 (ws_X8_comesDown) none rm_X8_comesDown) (Rr : Rx NM X 0 0 none SH o) (s : Sg) (v1 : Int32) (u1 : Int32) (u2 : Int32) (u3 : Int32) (hf : c_X8_comesDown_123 s v1 u1 u2 u3 = some o) : XW NM X 2 0 0 SH s 123 [(0, .ref 36), (1, .int v1)] [.int u3, .int u2, .int u1, .ref 44] := by
  unfold c_X8_comesDown_123 at hf
  refine X_iadd C dX8_comesDown_123 ?_
  refine X_iast C sh_44 dX8_comesDown_124 hf (fun s1 hf => ?_)
  refine X_aload_n C 0 dX8_comesDown_125 rfl rfl ?_
  refine X_dup C dX8_comesDown_126 rfl ?_
  refine X_geti C 15 sh_36 nc_8 inM_8 (by decide) (mc wd_92) rfl dX8_comesDown_127 ?_
  refine X_aload_n C 0 dX8_comesDown_130 rfl rfl ?_
  refine X_getr C 10 sh_36 nc_8 inM_8 (by decide) (mc wd_87) rfl dX8_comesDown_131 ?_
  refine X_iload_n C 1 dX8_comesDown_134 rfl rfl ?_
  refine X_iald C sh_45 dX8_comesDown_135 hf (fun hf => ?_)
  refine X_iadd C dX8_comesDown_136 ?_
  refine X_puti C 15 sh_36 nc_8 inM_8 (by decide) tyX8 tyX8_ok nmX8 (mc wd_92) rfl (by decide +kernel) rfl dX8_comesDown_137 hf (fun s2 hf => ?_)
  refine X_aload_n C 0 dX8_comesDown_140 rfl rfl ?_
  refine X_dup C dX8_comesDown_141 rfl ?_
  refine X_geti C 22 sh_36 nc_8 inM_8 (by decide) (mc wd_107) rfl dX8_comesDown_142 ?_
  refine X_aload_n C 0 dX8_comesDown_145 rfl rfl ?_
  refine X_getr C 10 sh_36 nc_8 inM_8 (by decide) (mc wd_87) rfl dX8_comesDown_146 ?_
  refine X_iload_n C 1 dX8_comesDown_149 rfl rfl ?_
  refine X_iald C sh_45 dX8_comesDown_150 hf (fun hf => ?_)
  refine X_iadd C dX8_comesDown_151 ?_
  refine X_puti C 22 sh_36 nc_8 inM_8 (by decide) tyX8 tyX8_ok nmX8 (mc wd_107) rfl (by decide +kernel) rfl dX8_comesDown_152 hf (fun s3 hf => ?_)
  refine X_aload_n C 0 dX8_comesDown_155 rfl rfl ?_
  refine X_dup C dX8_comesDown_156 rfl ?_
  refine X_geti C 16 sh_36 nc_8 inM_8 (by decide) (mc wd_105) rfl dX8_comesDown_157 ?_
  refine X_aload_n C 0 dX8_comesDown_160 rfl rfl ?_
  refine X_getr C 6 sh_36 nc_8 inM_8 (by decide) (mc wd_83) rfl dX8_comesDown_161 ?_
  refine X_iload_n C 1 dX8_comesDown_164 rfl rfl ?_
  refine X_iald C sh_41 dX8_comesDown_165 hf (fun hf => ?_)
  refine X_aload_n C 0 dX8_comesDown_166 rfl rfl ?_
  refine X_getr C 10 sh_36 nc_8 inM_8 (by decide) (mc wd_87) rfl dX8_comesDown_167 ?_
  refine X_iload_n C 1 dX8_comesDown_170 rfl rfl ?_
  refine X_iald C sh_45 dX8_comesDown_171 hf (fun hf => ?_)
  refine X_isub C dX8_comesDown_172 ?_
  refine X_aload_n C 0 dX8_comesDown_173 rfl rfl ?_
  refine X_getr C 7 sh_36 nc_8 inM_8 (by decide) (mc wd_84) rfl dX8_comesDown_174 ?_
  refine X_iload_n C 1 dX8_comesDown_177 rfl rfl ?_
  refine X_iald C sh_42 dX8_comesDown_178 hf (fun hf => ?_)
  refine X_iadd C dX8_comesDown_179 ?_
  refine X_iadd C dX8_comesDown_180 ?_
  refine X_puti C 16 sh_36 nc_8 inM_8 (by decide) tyX8 tyX8_ok nmX8 (mc wd_105) rfl (by decide +kernel) rfl dX8_comesDown_181 hf (fun s4 hf => ?_)
  refine X_aload_n C 0 dX8_comesDown_184 rfl rfl ?_
  refine X_dup C dX8_comesDown_185 rfl ?_
  refine X_geti C 14 sh_36 nc_8 inM_8 (by decide) (mc wd_104) rfl dX8_comesDown_186 ?_
  refine X_iconst (v := (5:Int32)) C dX8_comesDown_189 (by decide) ?_
  refine X_aload_n C 0 dX8_comesDown_190 rfl rfl ?_
  refine X_getr C 6 sh_36 nc_8 inM_8 (by decide) (mc wd_83) rfl dX8_comesDown_191 ?_
  refine X_iload_n C 1 dX8_comesDown_194 rfl rfl ?_
  refine X_iald C sh_41 dX8_comesDown_195 hf (fun hf => ?_)
  refine X_imul C dX8_comesDown_196 ?_
  refine X_isub C dX8_comesDown_197 ?_
  refine X_puti C 14 sh_36 nc_8 inM_8 (by decide) tyX8 tyX8_ok nmX8 (mc wd_104) rfl (by decide +kernel) rfl dX8_comesDown_198 hf (fun s5 hf => ?_)
  refine X_aload_n C 0 dX8_comesDown_201 rfl rfl ?_
  refine X_aload_n C 0 dX8_comesDown_202 rfl rfl ?_
  refine X_geti C 24 sh_36 nc_8 inM_8 (by decide) (mc wd_96) rfl dX8_comesDown_203 ?_
  refine X_iconst (v := (-1:Int32)) C dX8_comesDown_206 (by decide) ?_
  refine X_icmp_eq (tgt := 223) C dX8_comesDown_207 (by decide) hf (fun hf => ?_) (fun hf => ?_)
  · exact w_X8_comesDown_223 C Rr _ _ hf
  · refine X_aload_n C 0 dX8_comesDown_210 rfl rfl ?_
    refine X_getr C 9 sh_36 nc_8 inM_8 (by decide) (mc wd_86) rfl dX8_comesDown_211 ?_
    refine X_iload_n C 1 dX8_comesDown_214 rfl rfl ?_
    refine X_iald C sh_44 dX8_comesDown_215 hf (fun hf => ?_)
    refine X_aload_n C 0 dX8_comesDown_216 rfl rfl ?_
    refine X_geti C 24 sh_36 nc_8 inM_8 (by decide) (mc wd_96) rfl dX8_comesDown_217 ?_
    refine X_icmp_ge (tgt := 232) C dX8_comesDown_220 (by decide) hf (fun hf => ?_) (fun hf => ?_)
    · refine X_aload_n C 0 dX8_comesDown_232 rfl rfl ?_
      refine X_geti C 24 sh_36 nc_8 inM_8 (by decide) (mc wd_96) rfl dX8_comesDown_233 ?_
      exact w_X8_comesDown_236 C Rr _ _ _ hf
    · exact w_X8_comesDown_223 C Rr _ _ hf
def c_X8_comesDown_107 (s : Sg) (v1 : Int32) (u1 : Int32) (u2 : Int32) (u3 : Int32) : Option (Sg) :=
if (s 36 14) < ((700:Int32)) then
 c_X8_comesDown_123 s v1 u1 (u2 + u3) ((0:Int32))
 else
 c_X8_comesDown_123 s v1 u1 (u2 + u3) ((1:Int32))
set_option maxHeartbeats 4000000 in
set_option maxRecDepth 100000 in
theorem w_X8_comesDown_107 {X : Ctx} {o : Sg} (C : Cx NM X cX8_comesDown 2 RX8 (ws_X8_comesDown) none rm_X8_comesDown) (Rr : Rx NM X 0 0 none SH o) (s : Sg) (v1 : Int32) (u1 : Int32) (u2 : Int32) (u3 : Int32) (hf : c_X8_comesDown_107 s v1 u1 u2 u3 = some o) : XW NM X 2 0 0 SH s 107 [(0, .ref 36), (1, .int v1)] [.int u3, .int u2, .int u1, .ref 44] := by
  unfold c_X8_comesDown_107 at hf
  refine X_iadd C dX8_comesDown_107 ?_
  refine X_aload_n C 0 dX8_comesDown_108 rfl rfl ?_
  refine X_geti C 14 sh_36 nc_8 inM_8 (by decide) (mc wd_104) rfl dX8_comesDown_109 ?_
  refine X_sipush (v := (700:Int32)) C dX8_comesDown_112 (by decide) ?_
  refine X_icmp_lt (tgt := 122) C dX8_comesDown_115 (by decide) hf (fun hf => ?_) (fun hf => ?_)
  · refine X_iconst (v := (0:Int32)) C dX8_comesDown_122 (by decide) ?_
    exact w_X8_comesDown_123 C Rr _ _ _ _ _ hf
  · refine X_iconst (v := (1:Int32)) C dX8_comesDown_118 (by decide) ?_
    refine X_goto (tgt := 123) C dX8_comesDown_119 (by decide) ?_
    exact w_X8_comesDown_123 C Rr _ _ _ _ _ hf
def c_X8_comesDown_92 (s : Sg) (v1 : Int32) (u1 : Int32) (u2 : Int32) : Option (Sg) :=
if (s 36 14) < ((400:Int32)) then
 c_X8_comesDown_107 s v1 u1 u2 ((0:Int32))
 else
 c_X8_comesDown_107 s v1 u1 u2 ((1:Int32))
set_option maxHeartbeats 4000000 in
set_option maxRecDepth 100000 in
theorem w_X8_comesDown_92 {X : Ctx} {o : Sg} (C : Cx NM X cX8_comesDown 2 RX8 (ws_X8_comesDown) none rm_X8_comesDown) (Rr : Rx NM X 0 0 none SH o) (s : Sg) (v1 : Int32) (u1 : Int32) (u2 : Int32) (hf : c_X8_comesDown_92 s v1 u1 u2 = some o) : XW NM X 2 0 0 SH s 92 [(0, .ref 36), (1, .int v1)] [.int u2, .int u1, .ref 44] := by
  unfold c_X8_comesDown_92 at hf
  refine X_aload_n C 0 dX8_comesDown_92 rfl rfl ?_
  refine X_geti C 14 sh_36 nc_8 inM_8 (by decide) (mc wd_104) rfl dX8_comesDown_93 ?_
  refine X_sipush (v := (400:Int32)) C dX8_comesDown_96 (by decide) ?_
  refine X_icmp_lt (tgt := 106) C dX8_comesDown_99 (by decide) hf (fun hf => ?_) (fun hf => ?_)
  · refine X_iconst (v := (0:Int32)) C dX8_comesDown_106 (by decide) ?_
    exact w_X8_comesDown_107 C Rr _ _ _ _ _ hf
  · refine X_iconst (v := (1:Int32)) C dX8_comesDown_102 (by decide) ?_
    refine X_goto (tgt := 107) C dX8_comesDown_103 (by decide) ?_
    exact w_X8_comesDown_107 C Rr _ _ _ _ _ hf
def c_X8_comesDown_0 (s : Sg) : Option (Sg) :=
lt_ (s 36 3) (fun x1 => lt_ (sgu s 36 3 ((s 36 3) + ((1:Int32)))) (fun s2 => gd (vi x1 400) (if (s2 36 14) < (((10:Int32)) * (s2 41 x1.toNatClampNeg)) then
 gd (vi x1 400) (lt_ (sgu s2 39 x1.toNatClampNeg ((2:Int32))) (fun s3 => gd (vi x1 400) (gd (vi x1 400) (lt_ (sgu s3 36 16 ((s3 36 16) + ((s3 41 x1.toNatClampNeg) + (s3 42 x1.toNatClampNeg)))) (fun s4 => lt_ (sgu s4 36 20 ((s4 36 20) + ((1:Int32)))) (fun s5 => some s5))))))
 else
 gd (vi x1 400) (lt_ (sgu s2 39 x1.toNatClampNeg ((1:Int32))) (fun s6 => gd (vi x1 400) (gd (vi x1 400) (gd (vi (s6 43 x1.toNatClampNeg) 4) (gd (!decide (((100:Int32)) = 0)) (gd (vi x1 400) (lt_ (sgu s6 45 x1.toNatClampNeg (((s6 41 x1.toNatClampNeg) * (s6 38 (s6 43 x1.toNatClampNeg).toNatClampNeg)) / ((100:Int32)))) (fun s7 => gd (vi x1 400) (gd (vi x1 400) (if (((4:Int32)) * (s7 42 x1.toNatClampNeg)) < (s7 41 x1.toNatClampNeg) then
 c_X8_comesDown_92 s7 x1 x1 ((0:Int32))
 else
 c_X8_comesDown_92 s7 x1 x1 ((1:Int32)))))))))))))))
set_option maxHeartbeats 4000000 in
set_option maxRecDepth 100000 in
theorem w_X8_comesDown_0 {X : Ctx} {o : Sg} (C : Cx NM X cX8_comesDown 2 RX8 (ws_X8_comesDown) none rm_X8_comesDown) (Rr : Rx NM X 0 0 none SH o) (s : Sg) (hf : c_X8_comesDown_0 s = some o) : XW NM X 2 0 0 SH s 0 [(0, .ref 36)] [] := by
  unfold c_X8_comesDown_0 at hf
  refine X_aload_n C 0 dX8_comesDown_0 rfl rfl ?_
  refine X_geti C 3 sh_36 nc_8 inM_8 (by decide) (mc wd_80) rfl dX8_comesDown_1 ?_
  refine X_nm hf (fun x1 hf => ?_)
  refine X_istore_n (L' := [(0, .ref 36), (1, .int x1)]) C [1, 0] dX8_comesDown_4 rfl (by decide) rfl ?_
  refine X_aload_n C 0 dX8_comesDown_5 rfl rfl ?_
  refine X_dup C dX8_comesDown_6 rfl ?_
  refine X_geti C 3 sh_36 nc_8 inM_8 (by decide) (mc wd_80) rfl dX8_comesDown_7 ?_
  refine X_iconst (v := (1:Int32)) C dX8_comesDown_10 (by decide) ?_
  refine X_iadd C dX8_comesDown_11 ?_
  refine X_puti C 3 sh_36 nc_8 inM_8 (by decide) tyX8 tyX8_ok nmX8 (mc wd_80) rfl (by decide +kernel) rfl dX8_comesDown_12 hf (fun s2 hf => ?_)
  refine X_aload_n C 0 dX8_comesDown_15 rfl rfl ?_
  refine X_geti C 14 sh_36 nc_8 inM_8 (by decide) (mc wd_104) rfl dX8_comesDown_16 ?_
  refine X_bipush (v := (10:Int32)) C dX8_comesDown_19 (by decide) ?_
  refine X_aload_n C 0 dX8_comesDown_21 rfl rfl ?_
  refine X_getr C 6 sh_36 nc_8 inM_8 (by decide) (mc wd_83) rfl dX8_comesDown_22 ?_
  refine X_iload_n C 1 dX8_comesDown_25 rfl rfl ?_
  refine X_iald C sh_41 dX8_comesDown_26 hf (fun hf => ?_)
  refine X_imul C dX8_comesDown_27 ?_
  refine X_icmp_lt (tgt := 267) C dX8_comesDown_28 (by decide) hf (fun hf => ?_) (fun hf => ?_)
  · refine X_aload_n C 0 dX8_comesDown_267 rfl rfl ?_
    refine X_getr C 4 sh_36 nc_8 inM_8 (by decide) (mc wd_81) rfl dX8_comesDown_268 ?_
    refine X_iload_n C 1 dX8_comesDown_271 rfl rfl ?_
    refine X_iconst (v := (2:Int32)) C dX8_comesDown_272 (by decide) ?_
    refine X_iast C sh_39 dX8_comesDown_273 hf (fun s3 hf => ?_)
    refine X_aload_n C 0 dX8_comesDown_274 rfl rfl ?_
    refine X_dup C dX8_comesDown_275 rfl ?_
    refine X_geti C 16 sh_36 nc_8 inM_8 (by decide) (mc wd_105) rfl dX8_comesDown_276 ?_
    refine X_aload_n C 0 dX8_comesDown_279 rfl rfl ?_
    refine X_getr C 6 sh_36 nc_8 inM_8 (by decide) (mc wd_83) rfl dX8_comesDown_280 ?_
    refine X_iload_n C 1 dX8_comesDown_283 rfl rfl ?_
    refine X_iald C sh_41 dX8_comesDown_284 hf (fun hf => ?_)
    refine X_aload_n C 0 dX8_comesDown_285 rfl rfl ?_
    refine X_getr C 7 sh_36 nc_8 inM_8 (by decide) (mc wd_84) rfl dX8_comesDown_286 ?_
    refine X_iload_n C 1 dX8_comesDown_289 rfl rfl ?_
    refine X_iald C sh_42 dX8_comesDown_290 hf (fun hf => ?_)
    refine X_iadd C dX8_comesDown_291 ?_
    refine X_iadd C dX8_comesDown_292 ?_
    refine X_puti C 16 sh_36 nc_8 inM_8 (by decide) tyX8 tyX8_ok nmX8 (mc wd_105) rfl (by decide +kernel) rfl dX8_comesDown_293 hf (fun s4 hf => ?_)
    refine X_aload_n C 0 dX8_comesDown_296 rfl rfl ?_
    refine X_dup C dX8_comesDown_297 rfl ?_
    refine X_geti C 20 sh_36 nc_8 inM_8 (by decide) (mc wd_106) rfl dX8_comesDown_298 ?_
    refine X_iconst (v := (1:Int32)) C dX8_comesDown_301 (by decide) ?_
    refine X_iadd C dX8_comesDown_302 ?_
    refine X_puti C 20 sh_36 nc_8 inM_8 (by decide) tyX8 tyX8_ok nmX8 (mc wd_106) rfl (by decide +kernel) rfl dX8_comesDown_303 hf (fun s5 hf => ?_)
    exact X_vret C dX8_comesDown_306 hf Rr
  · refine X_aload_n C 0 dX8_comesDown_31 rfl rfl ?_
    refine X_getr C 4 sh_36 nc_8 inM_8 (by decide) (mc wd_81) rfl dX8_comesDown_32 ?_
    refine X_iload_n C 1 dX8_comesDown_35 rfl rfl ?_
    refine X_iconst (v := (1:Int32)) C dX8_comesDown_36 (by decide) ?_
    refine X_iast C sh_39 dX8_comesDown_37 hf (fun s6 hf => ?_)
    refine X_aload_n C 0 dX8_comesDown_38 rfl rfl ?_
    refine X_getr C 10 sh_36 nc_8 inM_8 (by decide) (mc wd_87) rfl dX8_comesDown_39 ?_
    refine X_iload_n C 1 dX8_comesDown_42 rfl rfl ?_
    refine X_aload_n C 0 dX8_comesDown_43 rfl rfl ?_
    refine X_getr C 6 sh_36 nc_8 inM_8 (by decide) (mc wd_83) rfl dX8_comesDown_44 ?_
    refine X_iload_n C 1 dX8_comesDown_47 rfl rfl ?_
    refine X_iald C sh_41 dX8_comesDown_48 hf (fun hf => ?_)
    refine X_aload_n C 0 dX8_comesDown_49 rfl rfl ?_
    refine X_getr C 1 sh_36 nc_8 inM_8 (by decide) (mc wd_78) rfl dX8_comesDown_50 ?_
    refine X_aload_n C 0 dX8_comesDown_53 rfl rfl ?_
    refine X_getr C 8 sh_36 nc_8 inM_8 (by decide) (mc wd_85) rfl dX8_comesDown_54 ?_
    refine X_iload_n C 1 dX8_comesDown_57 rfl rfl ?_
    refine X_iald C sh_43 dX8_comesDown_58 hf (fun hf => ?_)
    refine X_iald C sh_38 dX8_comesDown_59 hf (fun hf => ?_)
    refine X_imul C dX8_comesDown_60 ?_
    refine X_bipush (v := (100:Int32)) C dX8_comesDown_61 (by decide) ?_
    refine X_idiv C dX8_comesDown_63 hf (fun hf => ?_)
    refine X_iast C sh_45 dX8_comesDown_64 hf (fun s7 hf => ?_)
    refine X_aload_n C 0 dX8_comesDown_65 rfl rfl ?_
    refine X_getr C 9 sh_36 nc_8 inM_8 (by decide) (mc wd_86) rfl dX8_comesDown_66 ?_
    refine X_iload_n C 1 dX8_comesDown_69 rfl rfl ?_
    refine X_iconst (v := (4:Int32)) C dX8_comesDown_70 (by decide) ?_
    refine X_aload_n C 0 dX8_comesDown_71 rfl rfl ?_
    refine X_getr C 7 sh_36 nc_8 inM_8 (by decide) (mc wd_84) rfl dX8_comesDown_72 ?_
    refine X_iload_n C 1 dX8_comesDown_75 rfl rfl ?_
    refine X_iald C sh_42 dX8_comesDown_76 hf (fun hf => ?_)
    refine X_imul C dX8_comesDown_77 ?_
    refine X_aload_n C 0 dX8_comesDown_78 rfl rfl ?_
    refine X_getr C 6 sh_36 nc_8 inM_8 (by decide) (mc wd_83) rfl dX8_comesDown_79 ?_
    refine X_iload_n C 1 dX8_comesDown_82 rfl rfl ?_
    refine X_iald C sh_41 dX8_comesDown_83 hf (fun hf => ?_)
    refine X_icmp_lt (tgt := 91) C dX8_comesDown_84 (by decide) hf (fun hf => ?_) (fun hf => ?_)
    · refine X_iconst (v := (0:Int32)) C dX8_comesDown_91 (by decide) ?_
      exact w_X8_comesDown_92 C Rr _ _ _ _ hf
    · refine X_iconst (v := (1:Int32)) C dX8_comesDown_87 (by decide) ?_
      refine X_goto (tgt := 92) C dX8_comesDown_88 (by decide) ?_
      exact w_X8_comesDown_92 C Rr _ _ _ _ hf
def f_X8_comesDown (s : Sg) : Option (Sg) := c_X8_comesDown_0 s
theorem k_X8_comesDown (s : Sg) (o : Sg) (hf : f_X8_comesDown s = some o) : Ctr NM yX8_comesDown (ws_X8_comesDown) rm_X8_comesDown SH s [.ref 36] none o :=
  Ctr.of (by decide) rfl (Nat.le_of_ble_eq_true rfl) (fun X C Rr => by show XW NM X 2 0 0 SH s 0 [(0, .ref 36)] []; exact w_X8_comesDown_0 C Rr s hf)
abbrev ws_X8_see : List Cond := Cond.code yX8_see cX8_see 3 none :: AW
abbrev rm_X8_see : Room := { frames := 0, cells := 0, slots := 0, locals := 0 }
def c_X8_see_19 (s : Sg) (v1 : Int32) (u1 : Int32) (u2 : Int32) : Option (Sg) :=
gd (vi u1 3) (lt_ (sgu s 52 u1.toNatClampNeg u2) (fun s1 => gd (vi v1 3) (gd (vi v1 3) (if (s1 53 v1.toNatClampNeg) ≤ 0 then
 gd (vi v1 3) (lt_ (sgu s1 53 v1.toNatClampNeg ((s1 53 v1.toNatClampNeg) - ((0:Int32)))) (fun s2 => some s2))
 else
 gd (vi v1 3) (lt_ (sgu s1 53 v1.toNatClampNeg ((s1 53 v1.toNatClampNeg) - ((1:Int32)))) (fun s3 => some s3))))))
set_option maxHeartbeats 4000000 in
set_option maxRecDepth 100000 in
theorem w_X8_see_19 {X : Ctx} {o : Sg} (C : Cx NM X cX8_see 3 RX8 (ws_X8_see) none rm_X8_see) (Rr : Rx NM X 0 0 none SH o) (s : Sg) (v1 : Int32) (u1 : Int32) (u2 : Int32) (hf : c_X8_see_19 s v1 u1 u2 = some o) : XW NM X 3 0 0 SH s 19 [(0, .ref 36), (1, .int v1)] [.int u2, .int u1, .ref 52] := by
  unfold c_X8_see_19 at hf
  refine X_iast C sh_52 dX8_see_19 hf (fun s1 hf => ?_)
  refine X_aload_n C 0 dX8_see_20 rfl rfl ?_
  refine X_getr C 35 sh_36 nc_8 inM_8 (by decide) (mc wd_109) rfl dX8_see_21 ?_
  refine X_iload_n C 1 dX8_see_24 rfl rfl ?_
  refine X_dup2 C dX8_see_25 rfl rfl ?_
  refine X_iald C sh_53 dX8_see_26 hf (fun hf => ?_)
  refine X_aload_n C 0 dX8_see_27 rfl rfl ?_
  refine X_getr C 35 sh_36 nc_8 inM_8 (by decide) (mc wd_109) rfl dX8_see_28 ?_
  refine X_iload_n C 1 dX8_see_31 rfl rfl ?_
  refine X_iald C sh_53 dX8_see_32 hf (fun hf => ?_)
  refine X_if_le (tgt := 40) C dX8_see_33 (by decide) hf (fun hf => ?_) (fun hf => ?_)
  · refine X_iconst (v := (0:Int32)) C dX8_see_40 (by decide) ?_
    refine X_isub C dX8_see_41 ?_
    refine X_iast C sh_53 dX8_see_42 hf (fun s2 hf => ?_)
    exact X_vret C dX8_see_43 hf Rr
  · refine X_iconst (v := (1:Int32)) C dX8_see_36 (by decide) ?_
    refine X_goto (tgt := 41) C dX8_see_37 (by decide) ?_
    refine X_isub C dX8_see_41 ?_
    refine X_iast C sh_53 dX8_see_42 hf (fun s3 hf => ?_)
    exact X_vret C dX8_see_43 hf Rr
def c_X8_see_0 (s : Sg) (v1 : Int32) (v2 : Int32) : Option (Sg) :=
gd (vi v1 3) (if (s 53 v1.toNatClampNeg) ≤ 0 then
 c_X8_see_19 s v1 v1 v2
 else
 c_X8_see_19 s v1 v1 ((-1:Int32)))
set_option maxHeartbeats 4000000 in
set_option maxRecDepth 100000 in
theorem w_X8_see_0 {X : Ctx} {o : Sg} (C : Cx NM X cX8_see 3 RX8 (ws_X8_see) none rm_X8_see) (Rr : Rx NM X 0 0 none SH o) (s : Sg) (v1 : Int32) (v2 : Int32) (hf : c_X8_see_0 s v1 v2 = some o) : XW NM X 3 0 0 SH s 0 [(0, .ref 36), (1, .int v1), (2, .int v2)] [] := by
  unfold c_X8_see_0 at hf
  refine X_aload_n C 0 dX8_see_0 rfl rfl ?_
  refine X_getr C 34 sh_36 nc_8 inM_8 (by decide) (mc wd_108) rfl dX8_see_1 ?_
  refine X_iload_n C 1 dX8_see_4 rfl rfl ?_
  refine X_aload_n C 0 dX8_see_5 rfl rfl ?_
  refine X_getr C 35 sh_36 nc_8 inM_8 (by decide) (mc wd_109) rfl dX8_see_6 ?_
  refine X_iload_n C 1 dX8_see_9 rfl rfl ?_
  refine X_iald C sh_53 dX8_see_10 hf (fun hf => ?_)
  refine X_if_le (tgt := 18) C dX8_see_11 (by decide) hf (fun hf => ?_) (fun hf => ?_)
  · refine X_iload_n C 2 dX8_see_18 rfl rfl ?_
    refine X_loc (L' := [(0, .ref 36), (1, .int v1)]) [0, 1] rfl ?_
    exact w_X8_see_19 C Rr _ _ _ _ hf
  · refine X_iconst (v := (-1:Int32)) C dX8_see_14 (by decide) ?_
    refine X_goto (tgt := 19) C dX8_see_15 (by decide) ?_
    refine X_loc (L' := [(0, .ref 36), (1, .int v1)]) [0, 1] rfl ?_
    exact w_X8_see_19 C Rr _ _ _ _ hf
def f_X8_see (s : Sg) (v1 : Int32) (v2 : Int32) : Option (Sg) := c_X8_see_0 s v1 v2
theorem k_X8_see (s : Sg) (v1 : Int32) (v2 : Int32) (o : Sg) (hf : f_X8_see s v1 v2 = some o) : Ctr NM yX8_see (ws_X8_see) rm_X8_see SH s [.ref 36, .int v1, .int v2] none o :=
  Ctr.of (by decide) rfl (Nat.le_of_ble_eq_true rfl) (fun X C Rr => by show XW NM X 3 0 0 SH s 0 [(0, .ref 36), (1, .int v1), (2, .int v2)] []; exact w_X8_see_0 C Rr s v1 v2 hf)

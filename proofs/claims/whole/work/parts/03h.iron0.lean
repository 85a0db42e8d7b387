abbrev ws_X7_within : List Cond := Cond.code yX7_within cX7_within 3 (some .boolean) :: AW
abbrev rm_X7_within : Room := { frames := 0, cells := 0, slots := 0, locals := 0 }
def c_X7_within_0 (s : Sg) (v0 : Int32) (v1 : Int32) (v2 : Int32) : Option (Int32 × Sg) :=
if v0 < v1 then
 gd (bz ((0:Int32))) (some ((0:Int32), s))
 else
 if v2 < v0 then
 gd (bz ((0:Int32))) (some ((0:Int32), s))
 else
 gd (bz ((1:Int32))) (some ((1:Int32), s))
set_option maxHeartbeats 4000000 in
set_option maxRecDepth 100000 in
theorem w_X7_within_0 {X : Ctx} {o : Int32 × Sg} (C : Cx NM X cX7_within 3 RX7 (ws_X7_within) (some .boolean) rm_X7_within) (Rr : Rx NM X 0 0 (some (.int o.1)) SH o.2) (s : Sg) (v0 : Int32) (v1 : Int32) (v2 : Int32) (hf : c_X7_within_0 s v0 v1 v2 = some o) : XW NM X 3 0 0 SH s 0 [(0, .int v0), (1, .int v1), (2, .int v2)] [] := by
  unfold c_X7_within_0 at hf
  refine X_iload_n C 0 dX7_within_0 rfl rfl ?_
  refine X_iload_n C 1 dX7_within_1 rfl rfl ?_
  refine X_icmp_lt (tgt := 14) C dX7_within_2 (by decide) hf (fun hf => ?_) (fun hf => ?_)
  · refine X_iconst (v := (0:Int32)) C dX7_within_14 (by decide) ?_
    exact X_zret C dX7_within_15 hf Rr
  · refine X_iload_n C 0 dX7_within_5 rfl rfl ?_
    refine X_iload_n C 2 dX7_within_6 rfl rfl ?_
    refine X_icmp_gt (tgt := 14) C dX7_within_7 (by decide) hf (fun hf => ?_) (fun hf => ?_)
    · refine X_iconst (v := (0:Int32)) C dX7_within_14 (by decide) ?_
      exact X_zret C dX7_within_15 hf Rr
    · refine X_iconst (v := (1:Int32)) C dX7_within_10 (by decide) ?_
      refine X_goto (tgt := 15) C dX7_within_11 (by decide) ?_
      exact X_zret C dX7_within_15 hf Rr
def f_X7_within (s : Sg) (v0 : Int32) (v1 : Int32) (v2 : Int32) : Option (Int32 × Sg) := c_X7_within_0 s v0 v1 v2
theorem k_X7_within (s : Sg) (v0 : Int32) (v1 : Int32) (v2 : Int32) (o : Int32 × Sg) (hf : f_X7_within s v0 v1 v2 = some o) : Ctr NM yX7_within (ws_X7_within) rm_X7_within SH s [.int v0, .int v1, .int v2] (some (.int o.1)) o.2 :=
  Ctr.of (by decide) rfl (Nat.le_of_ble_eq_true rfl) (fun X C Rr => by show XW NM X 3 0 0 SH s 0 [(0, .int v0), (1, .int v1), (2, .int v2)] []; exact w_X7_within_0 C Rr s v0 v1 v2 hf)
abbrev ws_X7_buy : List Cond := Cond.code yX7_buy cX7_buy 3 (some .int) :: AW
abbrev rm_X7_buy : Room := { frames := 1, cells := 0, slots := 0, locals := 22 }
def c_X7_buy_0 (s : Sg) (v1 : Int32) (v2 : Int32) : Option (Int32 × Sg) :=
bd (f_X7_within s v1 ((0:Int32)) ((5:Int32))) (fun r2 s1 => if r2 = 0 then
 some ((-2:Int32), s1)
 else
 bd (f_X7_within s1 v2 ((0:Int32)) ((10000:Int32))) (fun r4 s3 => if r4 = 0 then
 some ((-2:Int32), s3)
 else
 gd (vi v1 6) (if ((s3 1 v1.toNatClampNeg) + v2) ≤ ((10000:Int32)) then
 gd (vi v1 6) (gd (vi v1 6) (lt_ (sgu s3 1 v1.toNatClampNeg ((s3 1 v1.toNatClampNeg) + v2)) (fun s5 => gd (vi v1 6) (some (s5 1 v1.toNatClampNeg, s5)))))
 else
 some ((-3:Int32), s3))))
set_option maxHeartbeats 4000000 in
set_option maxRecDepth 100000 in
theorem w_X7_buy_0 {X : Ctx} {o : Int32 × Sg} (C : Cx NM X cX7_buy 3 RX7 (ws_X7_buy) (some .int) rm_X7_buy) (Rr : Rx NM X 0 0 (some (.int o.1)) SH o.2) (s : Sg) (v1 : Int32) (v2 : Int32) (hf : c_X7_buy_0 s v1 v2 = some o) : XW NM X 3 0 0 SH s 0 [(0, .ref 0), (1, .int v1), (2, .int v2)] [] := by
  unfold c_X7_buy_0 at hf
  refine X_iload_n C 1 dX7_buy_0 rfl rfl ?_
  refine X_iconst (v := (0:Int32)) C dX7_buy_1 (by decide) ?_
  refine X_iconst (v := (5:Int32)) C dX7_buy_2 (by decide) ?_
  refine X_callSi (As := [.int v1, .int ((0:Int32)), .int ((5:Int32))]) (rest := []) C aw_ok mcs lk_X7_90 (by decide) rfl rfl (Nat.le_of_ble_eq_true rfl) dX7_buy_3 hf (fun r s h => k_X7_within _ _ _ _ (r, s) h) (fun r2 s1 hf => ?_)
  refine X_if_eq (tgt := 20) C dX7_buy_6 (by decide) hf (fun hf => ?_) (fun hf => ?_)
  · refine X_bipush (v := (-2:Int32)) C dX7_buy_20 (by decide) ?_
    exact X_iret C dX7_buy_22 hf Rr
  · refine X_iload_n C 2 dX7_buy_9 rfl rfl ?_
    refine X_iconst (v := (0:Int32)) C dX7_buy_10 (by decide) ?_
    refine X_sipush (v := (10000:Int32)) C dX7_buy_11 (by decide) ?_
    refine X_callSi (As := [.int v2, .int ((0:Int32)), .int ((10000:Int32))]) (rest := []) C aw_ok mcs lk_X7_90 (by decide) rfl rfl (Nat.le_of_ble_eq_true rfl) dX7_buy_14 hf (fun r s h => k_X7_within _ _ _ _ (r, s) h) (fun r4 s3 hf => ?_)
    refine X_if_ne (tgt := 23) C dX7_buy_17 (by decide) hf (fun hf => ?_) (fun hf => ?_)
    · refine X_aload_n C 0 dX7_buy_23 rfl rfl ?_
      refine X_getr C 0 sh_0 nc_7 inM_7 (by decide) (mc wd_57) rfl dX7_buy_24 ?_
      refine X_iload_n C 1 dX7_buy_27 rfl rfl ?_
      refine X_iald C sh_1 dX7_buy_28 hf (fun hf => ?_)
      refine X_iload_n C 2 dX7_buy_29 rfl rfl ?_
      refine X_iadd C dX7_buy_30 ?_
      refine X_sipush (v := (10000:Int32)) C dX7_buy_31 (by decide) ?_
      refine X_icmp_le (tgt := 40) C dX7_buy_34 (by decide) hf (fun hf => ?_) (fun hf => ?_)
      · refine X_aload_n C 0 dX7_buy_40 rfl rfl ?_
        refine X_getr C 0 sh_0 nc_7 inM_7 (by decide) (mc wd_57) rfl dX7_buy_41 ?_
        refine X_iload_n C 1 dX7_buy_44 rfl rfl ?_
        refine X_dup2 C dX7_buy_45 rfl rfl ?_
        refine X_iald C sh_1 dX7_buy_46 hf (fun hf => ?_)
        refine X_iload_n C 2 dX7_buy_47 rfl rfl ?_
        refine X_iadd C dX7_buy_48 ?_
        refine X_iast C sh_1 dX7_buy_49 hf (fun s5 hf => ?_)
        refine X_aload_n C 0 dX7_buy_50 rfl rfl ?_
        refine X_getr C 0 sh_0 nc_7 inM_7 (by decide) (mc wd_57) rfl dX7_buy_51 ?_
        refine X_iload_n C 1 dX7_buy_54 rfl rfl ?_
        refine X_iald C sh_1 dX7_buy_55 hf (fun hf => ?_)
        exact X_iret C dX7_buy_56 hf Rr
      · refine X_bipush (v := (-3:Int32)) C dX7_buy_37 (by decide) ?_
        exact X_iret C dX7_buy_39 hf Rr
    · refine X_bipush (v := (-2:Int32)) C dX7_buy_20 (by decide) ?_
      exact X_iret C dX7_buy_22 hf Rr
def f_X7_buy (s : Sg) (v1 : Int32) (v2 : Int32) : Option (Int32 × Sg) := c_X7_buy_0 s v1 v2
theorem k_X7_buy (s : Sg) (v1 : Int32) (v2 : Int32) (o : Int32 × Sg) (hf : f_X7_buy s v1 v2 = some o) : Ctr NM yX7_buy (ws_X7_buy) rm_X7_buy SH s [.ref 0, .int v1, .int v2] (some (.int o.1)) o.2 :=
  Ctr.of (by decide) rfl (Nat.le_of_ble_eq_true rfl) (fun X C Rr => by show XW NM X 3 0 0 SH s 0 [(0, .ref 0), (1, .int v1), (2, .int v2)] []; exact w_X7_buy_0 C Rr s v1 v2 hf)
abbrev ws_X7_rich : List Cond := Cond.code yX7_rich cX7_rich 4 (some .int) :: AW
abbrev rm_X7_rich : Room := { frames := 1, cells := 0, slots := 0, locals := 22 }
def c_X7_rich_0 (s : Sg) (v1 : Int32) (v2 : Int32) : Option (Int32 × Sg) :=
bd (f_X7_within s v1 ((0:Int32)) ((3:Int32))) (fun r2 s1 => if r2 = 0 then
 some ((-2:Int32), s1)
 else
 bd (f_X7_within s1 v2 ((10:Int32)) ((60:Int32))) (fun r4 s3 => if r4 = 0 then
 some ((-2:Int32), s3)
 else
 gd (vi v1 4) (lt_ (s3 2 v1.toNatClampNeg) (fun x5 => gd (vi v1 4) (lt_ (sgu s3 2 v1.toNatClampNeg v2) (fun s6 => some (x5, s6)))))))
set_option maxHeartbeats 4000000 in
set_option maxRecDepth 100000 in
theorem w_X7_rich_0 {X : Ctx} {o : Int32 × Sg} (C : Cx NM X cX7_rich 4 RX7 (ws_X7_rich) (some .int) rm_X7_rich) (Rr : Rx NM X 0 0 (some (.int o.1)) SH o.2) (s : Sg) (v1 : Int32) (v2 : Int32) (hf : c_X7_rich_0 s v1 v2 = some o) : XW NM X 4 0 0 SH s 0 [(0, .ref 0), (1, .int v1), (2, .int v2)] [] := by
  unfold c_X7_rich_0 at hf
  refine X_iload_n C 1 dX7_rich_0 rfl rfl ?_
  refine X_iconst (v := (0:Int32)) C dX7_rich_1 (by decide) ?_
  refine X_iconst (v := (3:Int32)) C dX7_rich_2 (by decide) ?_
  refine X_callSi (As := [.int v1, .int ((0:Int32)), .int ((3:Int32))]) (rest := []) C aw_ok mcs lk_X7_90 (by decide) rfl rfl (Nat.le_of_ble_eq_true rfl) dX7_rich_3 hf (fun r s h => k_X7_within _ _ _ _ (r, s) h) (fun r2 s1 hf => ?_)
  refine X_if_eq (tgt := 20) C dX7_rich_6 (by decide) hf (fun hf => ?_) (fun hf => ?_)
  · refine X_bipush (v := (-2:Int32)) C dX7_rich_20 (by decide) ?_
    exact X_iret C dX7_rich_22 hf Rr
  · refine X_iload_n C 2 dX7_rich_9 rfl rfl ?_
    refine X_bipush (v := (10:Int32)) C dX7_rich_10 (by decide) ?_
    refine X_bipush (v := (60:Int32)) C dX7_rich_12 (by decide) ?_
    refine X_callSi (As := [.int v2, .int ((10:Int32)), .int ((60:Int32))]) (rest := []) C aw_ok mcs lk_X7_90 (by decide) rfl rfl (Nat.le_of_ble_eq_true rfl) dX7_rich_14 hf (fun r s h => k_X7_within _ _ _ _ (r, s) h) (fun r4 s3 hf => ?_)
    refine X_if_ne (tgt := 23) C dX7_rich_17 (by decide) hf (fun hf => ?_) (fun hf => ?_)
    · refine X_aload_n C 0 dX7_rich_23 rfl rfl ?_
      refine X_getr C 1 sh_0 nc_7 inM_7 (by decide) (mc wd_58) rfl dX7_rich_24 ?_
      refine X_iload_n C 1 dX7_rich_27 rfl rfl ?_
      refine X_iald C sh_2 dX7_rich_28 hf (fun hf => ?_)
      refine X_nm hf (fun x5 hf => ?_)
      refine X_istore_n (L' := [(0, .ref 0), (1, .int v1), (2, .int v2), (3, .int x5)]) C [1, 2, 3, 0] dX7_rich_29 rfl (by decide) rfl ?_
      refine X_aload_n C 0 dX7_rich_30 rfl rfl ?_
      refine X_getr C 1 sh_0 nc_7 inM_7 (by decide) (mc wd_58) rfl dX7_rich_31 ?_
      refine X_iload_n C 1 dX7_rich_34 rfl rfl ?_
      refine X_iload_n C 2 dX7_rich_35 rfl rfl ?_
      refine X_iast C sh_2 dX7_rich_36 hf (fun s6 hf => ?_)
      refine X_iload_n C 3 dX7_rich_37 rfl rfl ?_
      exact X_iret C dX7_rich_38 hf Rr
    · refine X_bipush (v := (-2:Int32)) C dX7_rich_20 (by decide) ?_
      exact X_iret C dX7_rich_22 hf Rr
def f_X7_rich (s : Sg) (v1 : Int32) (v2 : Int32) : Option (Int32 × Sg) := c_X7_rich_0 s v1 v2
theorem k_X7_rich (s : Sg) (v1 : Int32) (v2 : Int32) (o : Int32 × Sg) (hf : f_X7_rich s v1 v2 = some o) : Ctr NM yX7_rich (ws_X7_rich) rm_X7_rich SH s [.ref 0, .int v1, .int v2] (some (.int o.1)) o.2 :=
  Ctr.of (by decide) rfl (Nat.le_of_ble_eq_true rfl) (fun X C Rr => by show XW NM X 4 0 0 SH s 0 [(0, .ref 0), (1, .int v1), (2, .int v2)] []; exact w_X7_rich_0 C Rr s v1 v2 hf)
abbrev ws_X7_charge : List Cond := Cond.code yX7_charge cX7_charge 6 (some .int) :: AW
abbrev rm_X7_charge : Room := { frames := 3, cells := 0, slots := 0, locals := 70 }
def c_X7_charge_0 (s : Sg) (v1 : Int32) (v2 : Int32) (v3 : Int32) (v4 : Int32) : Option (Int32 × Sg) :=
bd (f_X7_within s v1 ((1:Int32)) ((60:Int32))) (fun r2 s1 => if r2 = 0 then
 some ((-2:Int32), s1)
 else
 bd (f_X7_within s1 v2 ((0:Int32)) ((3:Int32))) (fun r4 s3 => if r4 = 0 then
 some ((-2:Int32), s3)
 else
 bd (f_X7_within s3 v3 ((0:Int32)) ((60:Int32))) (fun r6 s5 => if r6 = 0 then
 some ((-2:Int32), s5)
 else
 bd (f_X7_within s5 v4 ((0:Int32)) ((30:Int32))) (fun r8 s7 => if r8 = 0 then
 some ((-2:Int32), s7)
 else
 lt_ (((2:Int32)) + v2) (fun x9 => gd (vi ((0:Int32)) 6) (if (s7 1 ((0:Int32)).toNatClampNeg) < v1 then
 some ((-3:Int32), s7)
 else
 gd (vi x9 6) (if (s7 1 x9.toNatClampNeg) < v3 then
 some ((-3:Int32), s7)
 else
 gd (vi ((1:Int32)) 6) (if v4 ≤ (s7 1 ((1:Int32)).toNatClampNeg) then
 bd (f_X0_size s7) (fun r11 s10 => if ((12:Int32)) ≤ r11 then
 some ((-4:Int32), s10)
 else
 bd (f_X6_isFull 4 2800 s10) (fun r13 s12 => if r13 = 0 then
 gd (vi ((0:Int32)) 6) (gd (vi ((0:Int32)) 6) (lt_ (sgu s12 1 ((0:Int32)).toNatClampNeg ((s12 1 ((0:Int32)).toNatClampNeg) - v1)) (fun s14 => gd (vi x9 6) (gd (vi x9 6) (lt_ (sgu s14 1 x9.toNatClampNeg ((s14 1 x9.toNatClampNeg) - v3)) (fun s15 => gd (vi ((1:Int32)) 6) (gd (vi ((1:Int32)) 6) (lt_ (sgu s15 1 ((1:Int32)).toNatClampNeg ((s15 1 ((1:Int32)).toNatClampNeg) - v4)) (fun s16 => bd (f_X0_lay s16 v1 v2 v3 v4) (fun r18 s17 => some (r18, s17)))))))))))
 else
 some ((-4:Int32), s12)))
 else
 some ((-3:Int32), s7)))))))))
set_option maxHeartbeats 4000000 in
set_option maxRecDepth 100000 in
theorem w_X7_charge_0 {X : Ctx} {o : Int32 × Sg} (C : Cx NM X cX7_charge 6 RX7 (ws_X7_charge) (some .int) rm_X7_charge) (Rr : Rx NM X 0 0 (some (.int o.1)) SH o.2) (s : Sg) (v1 : Int32) (v2 : Int32) (v3 : Int32) (v4 : Int32) (hf : c_X7_charge_0 s v1 v2 v3 v4 = some o) : XW NM X 6 0 0 SH s 0 [(0, .ref 0), (1, .int v1), (2, .int v2), (3, .int v3), (4, .int v4)] [] := by
  unfold c_X7_charge_0 at hf
  refine X_iload_n C 1 dX7_charge_0 rfl rfl ?_
  refine X_iconst (v := (1:Int32)) C dX7_charge_1 (by decide) ?_
  refine X_bipush (v := (60:Int32)) C dX7_charge_2 (by decide) ?_
  refine X_callSi (As := [.int v1, .int ((1:Int32)), .int ((60:Int32))]) (rest := []) C aw_ok mcs lk_X7_90 (by decide) rfl rfl (Nat.le_of_ble_eq_true rfl) dX7_charge_4 hf (fun r s h => k_X7_within _ _ _ _ (r, s) h) (fun r2 s1 hf => ?_)
  refine X_if_eq (tgt := 19) C dX7_charge_7 (by decide) hf (fun hf => ?_) (fun hf => ?_)
  · refine X_bipush (v := (-2:Int32)) C dX7_charge_19 (by decide) ?_
    exact X_iret C dX7_charge_21 hf Rr
  · refine X_iload_n C 2 dX7_charge_10 rfl rfl ?_
    refine X_iconst (v := (0:Int32)) C dX7_charge_11 (by decide) ?_
    refine X_iconst (v := (3:Int32)) C dX7_charge_12 (by decide) ?_
    refine X_callSi (As := [.int v2, .int ((0:Int32)), .int ((3:Int32))]) (rest := []) C aw_ok mcs lk_X7_90 (by decide) rfl rfl (Nat.le_of_ble_eq_true rfl) dX7_charge_13 hf (fun r s h => k_X7_within _ _ _ _ (r, s) h) (fun r4 s3 hf => ?_)
    refine X_if_ne (tgt := 22) C dX7_charge_16 (by decide) hf (fun hf => ?_) (fun hf => ?_)
    · refine X_iload_n C 3 dX7_charge_22 rfl rfl ?_
      refine X_iconst (v := (0:Int32)) C dX7_charge_23 (by decide) ?_
      refine X_bipush (v := (60:Int32)) C dX7_charge_24 (by decide) ?_
      refine X_callSi (As := [.int v3, .int ((0:Int32)), .int ((60:Int32))]) (rest := []) C aw_ok mcs lk_X7_90 (by decide) rfl rfl (Nat.le_of_ble_eq_true rfl) dX7_charge_26 hf (fun r s h => k_X7_within _ _ _ _ (r, s) h) (fun r6 s5 hf => ?_)
      refine X_if_eq (tgt := 43) C dX7_charge_29 (by decide) hf (fun hf => ?_) (fun hf => ?_)
      · refine X_bipush (v := (-2:Int32)) C dX7_charge_43 (by decide) ?_
        exact X_iret C dX7_charge_45 hf Rr
      · refine X_iload C 4 dX7_charge_32 rfl ?_
        refine X_iconst (v := (0:Int32)) C dX7_charge_34 (by decide) ?_
        refine X_bipush (v := (30:Int32)) C dX7_charge_35 (by decide) ?_
        refine X_callSi (As := [.int v4, .int ((0:Int32)), .int ((30:Int32))]) (rest := []) C aw_ok mcs lk_X7_90 (by decide) rfl rfl (Nat.le_of_ble_eq_true rfl) dX7_charge_37 hf (fun r s h => k_X7_within _ _ _ _ (r, s) h) (fun r8 s7 hf => ?_)
        refine X_if_ne (tgt := 46) C dX7_charge_40 (by decide) hf (fun hf => ?_) (fun hf => ?_)
        · refine X_iconst (v := (2:Int32)) C dX7_charge_46 (by decide) ?_
          refine X_iload_n C 2 dX7_charge_47 rfl rfl ?_
          refine X_iadd C dX7_charge_48 ?_
          refine X_nm hf (fun x9 hf => ?_)
          refine X_istore (L' := [(0, .ref 0), (1, .int v1), (2, .int v2), (3, .int v3), (4, .int v4), (5, .int x9)]) C [1, 2, 3, 4, 5, 0] dX7_charge_49 (by decide) rfl ?_
          refine X_aload_n C 0 dX7_charge_51 rfl rfl ?_
          refine X_getr C 0 sh_0 nc_7 inM_7 (by decide) (mc wd_57) rfl dX7_charge_52 ?_
          refine X_iconst (v := (0:Int32)) C dX7_charge_55 (by decide) ?_
          refine X_iald C sh_1 dX7_charge_56 hf (fun hf => ?_)
          refine X_iload_n C 1 dX7_charge_57 rfl rfl ?_
          refine X_icmp_lt (tgt := 83) C dX7_charge_58 (by decide) hf (fun hf => ?_) (fun hf => ?_)
          · refine X_bipush (v := (-3:Int32)) C dX7_charge_83 (by decide) ?_
            exact X_iret C dX7_charge_85 hf Rr
          · refine X_aload_n C 0 dX7_charge_61 rfl rfl ?_
            refine X_getr C 0 sh_0 nc_7 inM_7 (by decide) (mc wd_57) rfl dX7_charge_62 ?_
            refine X_iload C 5 dX7_charge_65 rfl ?_
            refine X_iald C sh_1 dX7_charge_67 hf (fun hf => ?_)
            refine X_iload_n C 3 dX7_charge_68 rfl rfl ?_
            refine X_icmp_lt (tgt := 83) C dX7_charge_69 (by decide) hf (fun hf => ?_) (fun hf => ?_)
            · refine X_bipush (v := (-3:Int32)) C dX7_charge_83 (by decide) ?_
              exact X_iret C dX7_charge_85 hf Rr
            · refine X_aload_n C 0 dX7_charge_72 rfl rfl ?_
              refine X_getr C 0 sh_0 nc_7 inM_7 (by decide) (mc wd_57) rfl dX7_charge_73 ?_
              refine X_iconst (v := (1:Int32)) C dX7_charge_76 (by decide) ?_
              refine X_iald C sh_1 dX7_charge_77 hf (fun hf => ?_)
              refine X_iload C 4 dX7_charge_78 rfl ?_
              refine X_icmp_ge (tgt := 86) C dX7_charge_80 (by decide) hf (fun hf => ?_) (fun hf => ?_)
              · refine X_aload_n C 0 dX7_charge_86 rfl rfl ?_
                refine X_getr C 2 sh_0 nc_7 inM_7 (by decide) (mc wd_59) rfl dX7_charge_87 ?_
                refine X_callVi (As := []) (rest := []) C aw_ok mcs lk_X7_94 sh_3 nc_0 (by decide) rfl rfl (Nat.le_of_ble_eq_true rfl) dX7_charge_90 hf (fun r s h => k_X0_size _ (r, s) h) (fun r11 s10 hf => ?_)
                refine X_bipush (v := (12:Int32)) C dX7_charge_93 (by decide) ?_
                refine X_icmp_ge (tgt := 111) C dX7_charge_95 (by decide) hf (fun hf => ?_) (fun hf => ?_)
                · refine X_bipush (v := (-4:Int32)) C dX7_charge_111 (by decide) ?_
                  exact X_iret C dX7_charge_113 hf Rr
                · refine X_aload_n C 0 dX7_charge_98 rfl rfl ?_
                  refine X_getr C 2 sh_0 nc_7 inM_7 (by decide) (mc wd_59) rfl dX7_charge_99 ?_
                  refine X_getrN C 0 sh_3 nc_0 inM_0 (by decide) nf_X7_98 rfl dX7_charge_102 ?_
                  refine X_callVi (As := []) (rest := []) C aw_ok mcs lk_X7_101 sh_4 nc_6 (by decide) rfl rfl (Nat.le_of_ble_eq_true rfl) dX7_charge_105 hf (fun r s h => k_X6_isFull sh_4 sh_5 _ (r, s) h) (fun r13 s12 hf => ?_)
                  refine X_if_eq (tgt := 114) C dX7_charge_108 (by decide) hf (fun hf => ?_) (fun hf => ?_)
                  · refine X_aload_n C 0 dX7_charge_114 rfl rfl ?_
                    refine X_getr C 0 sh_0 nc_7 inM_7 (by decide) (mc wd_57) rfl dX7_charge_115 ?_
                    refine X_iconst (v := (0:Int32)) C dX7_charge_118 (by decide) ?_
                    refine X_dup2 C dX7_charge_119 rfl rfl ?_
                    refine X_iald C sh_1 dX7_charge_120 hf (fun hf => ?_)
                    refine X_iload_n C 1 dX7_charge_121 rfl rfl ?_
                    refine X_isub C dX7_charge_122 ?_
                    refine X_iast C sh_1 dX7_charge_123 hf (fun s14 hf => ?_)
                    refine X_aload_n C 0 dX7_charge_124 rfl rfl ?_
                    refine X_getr C 0 sh_0 nc_7 inM_7 (by decide) (mc wd_57) rfl dX7_charge_125 ?_
                    refine X_iload C 5 dX7_charge_128 rfl ?_
                    refine X_dup2 C dX7_charge_130 rfl rfl ?_
                    refine X_iald C sh_1 dX7_charge_131 hf (fun hf => ?_)
                    refine X_iload_n C 3 dX7_charge_132 rfl rfl ?_
                    refine X_isub C dX7_charge_133 ?_
                    refine X_iast C sh_1 dX7_charge_134 hf (fun s15 hf => ?_)
                    refine X_aload_n C 0 dX7_charge_135 rfl rfl ?_
                    refine X_getr C 0 sh_0 nc_7 inM_7 (by decide) (mc wd_57) rfl dX7_charge_136 ?_
                    refine X_iconst (v := (1:Int32)) C dX7_charge_139 (by decide) ?_
                    refine X_dup2 C dX7_charge_140 rfl rfl ?_
                    refine X_iald C sh_1 dX7_charge_141 hf (fun hf => ?_)
                    refine X_iload C 4 dX7_charge_142 rfl ?_
                    refine X_isub C dX7_charge_144 ?_
                    refine X_iast C sh_1 dX7_charge_145 hf (fun s16 hf => ?_)
                    refine X_aload_n C 0 dX7_charge_146 rfl rfl ?_
                    refine X_getr C 2 sh_0 nc_7 inM_7 (by decide) (mc wd_59) rfl dX7_charge_147 ?_
                    refine X_iload_n C 1 dX7_charge_150 rfl rfl ?_
                    refine X_iload_n C 2 dX7_charge_151 rfl rfl ?_
                    refine X_iload_n C 3 dX7_charge_152 rfl rfl ?_
                    refine X_iload C 4 dX7_charge_153 rfl ?_
                    refine X_callVi (As := [.int v1, .int v2, .int v3, .int v4]) (rest := []) C aw_ok mcs lk_X7_105 sh_3 nc_0 (by decide) rfl rfl (Nat.le_of_ble_eq_true rfl) dX7_charge_155 hf (fun r s h => k_X0_lay _ _ _ _ _ (r, s) h) (fun r18 s17 hf => ?_)
                    exact X_iret C dX7_charge_158 hf Rr
                  · refine X_bipush (v := (-4:Int32)) C dX7_charge_111 (by decide) ?_
                    exact X_iret C dX7_charge_113 hf Rr
              · refine X_bipush (v := (-3:Int32)) C dX7_charge_83 (by decide) ?_
                exact X_iret C dX7_charge_85 hf Rr
        · refine X_bipush (v := (-2:Int32)) C dX7_charge_43 (by decide) ?_
          exact X_iret C dX7_charge_45 hf Rr
    · refine X_bipush (v := (-2:Int32)) C dX7_charge_19 (by decide) ?_
      exact X_iret C dX7_charge_21 hf Rr
def f_X7_charge (s : Sg) (v1 : Int32) (v2 : Int32) (v3 : Int32) (v4 : Int32) : Option (Int32 × Sg) := c_X7_charge_0 s v1 v2 v3 v4
theorem k_X7_charge (s : Sg) (v1 : Int32) (v2 : Int32) (v3 : Int32) (v4 : Int32) (o : Int32 × Sg) (hf : f_X7_charge s v1 v2 v3 v4 = some o) : Ctr NM yX7_charge (ws_X7_charge) rm_X7_charge SH s [.ref 0, .int v1, .int v2, .int v3, .int v4] (some (.int o.1)) o.2 :=
  Ctr.of (by decide) rfl (Nat.le_of_ble_eq_true rfl) (fun X C Rr => by show XW NM X 6 0 0 SH s 0 [(0, .ref 0), (1, .int v1), (2, .int v2), (3, .int v3), (4, .int v4)] []; exact w_X7_charge_0 C Rr s v1 v2 v3 v4 hf)
abbrev ws_X7_chargeAt : List Cond := Cond.code yX7_chargeAt cX7_chargeAt 3 (some .int) :: AW
abbrev rm_X7_chargeAt : Room := { frames := 2, cells := 0, slots := 0, locals := 44 }
def c_X7_chargeAt_0 (s : Sg) (v1 : Int32) (v2 : Int32) : Option (Int32 × Sg) :=
if v1 < 0 then
 some ((-2:Int32), s)
 else
 bd (f_X7_within s v2 ((0:Int32)) ((6:Int32))) (fun r2 s1 => if r2 = 0 then
 some ((-2:Int32), s1)
 else
 if v1 < (s1 4 3) then
 bd (f_X6_get 4 2800 s1 v1 v2) (fun r4 s3 => some (r4, s3))
 else
 some ((-1:Int32), s1))
set_option maxHeartbeats 4000000 in
set_option maxRecDepth 100000 in
theorem w_X7_chargeAt_0 {X : Ctx} {o : Int32 × Sg} (C : Cx NM X cX7_chargeAt 3 RX7 (ws_X7_chargeAt) (some .int) rm_X7_chargeAt) (Rr : Rx NM X 0 0 (some (.int o.1)) SH o.2) (s : Sg) (v1 : Int32) (v2 : Int32) (hf : c_X7_chargeAt_0 s v1 v2 = some o) : XW NM X 3 0 0 SH s 0 [(0, .ref 0), (1, .int v1), (2, .int v2)] [] := by
  unfold c_X7_chargeAt_0 at hf
  refine X_iload_n C 1 dX7_chargeAt_0 rfl rfl ?_
  refine X_if_lt (tgt := 14) C dX7_chargeAt_1 (by decide) hf (fun hf => ?_) (fun hf => ?_)
  · refine X_bipush (v := (-2:Int32)) C dX7_chargeAt_14 (by decide) ?_
    exact X_iret C dX7_chargeAt_16 hf Rr
  · refine X_iload_n C 2 dX7_chargeAt_4 rfl rfl ?_
    refine X_iconst (v := (0:Int32)) C dX7_chargeAt_5 (by decide) ?_
    refine X_bipush (v := (6:Int32)) C dX7_chargeAt_6 (by decide) ?_
    refine X_callSi (As := [.int v2, .int ((0:Int32)), .int ((6:Int32))]) (rest := []) C aw_ok mcs lk_X7_90 (by decide) rfl rfl (Nat.le_of_ble_eq_true rfl) dX7_chargeAt_8 hf (fun r s h => k_X7_within _ _ _ _ (r, s) h) (fun r2 s1 hf => ?_)
    refine X_if_ne (tgt := 17) C dX7_chargeAt_11 (by decide) hf (fun hf => ?_) (fun hf => ?_)
    · refine X_iload_n C 1 dX7_chargeAt_17 rfl rfl ?_
      refine X_aload_n C 0 dX7_chargeAt_18 rfl rfl ?_
      refine X_getr C 2 sh_0 nc_7 inM_7 (by decide) (mc wd_59) rfl dX7_chargeAt_19 ?_
      refine X_getrN C 0 sh_3 nc_0 inM_0 (by decide) nf_X7_98 rfl dX7_chargeAt_22 ?_
      refine X_getiN C 3 sh_4 nc_6 inM_6 (by decide) nf_X7_109 rfl dX7_chargeAt_25 ?_
      refine X_icmp_lt (tgt := 33) C dX7_chargeAt_28 (by decide) hf (fun hf => ?_) (fun hf => ?_)
      · refine X_aload_n C 0 dX7_chargeAt_33 rfl rfl ?_
        refine X_getr C 2 sh_0 nc_7 inM_7 (by decide) (mc wd_59) rfl dX7_chargeAt_34 ?_
        refine X_getrN C 0 sh_3 nc_0 inM_0 (by decide) nf_X7_98 rfl dX7_chargeAt_37 ?_
        refine X_iload_n C 1 dX7_chargeAt_40 rfl rfl ?_
        refine X_iload_n C 2 dX7_chargeAt_41 rfl rfl ?_
        refine X_callVi (As := [.int v1, .int v2]) (rest := []) C aw_ok mcs lk_X7_112 sh_4 nc_6 (by decide) rfl rfl (Nat.le_of_ble_eq_true rfl) dX7_chargeAt_42 hf (fun r s h => k_X6_get sh_4 sh_5 _ _ _ (r, s) h) (fun r4 s3 hf => ?_)
        exact X_iret C dX7_chargeAt_45 hf Rr
      · refine X_iconst (v := (-1:Int32)) C dX7_chargeAt_31 (by decide) ?_
        exact X_iret C dX7_chargeAt_32 hf Rr
    · refine X_bipush (v := (-2:Int32)) C dX7_chargeAt_14 (by decide) ?_
      exact X_iret C dX7_chargeAt_16 hf Rr
def f_X7_chargeAt (s : Sg) (v1 : Int32) (v2 : Int32) : Option (Int32 × Sg) := c_X7_chargeAt_0 s v1 v2
theorem k_X7_chargeAt (s : Sg) (v1 : Int32) (v2 : Int32) (o : Int32 × Sg) (hf : f_X7_chargeAt s v1 v2 = some o) : Ctr NM yX7_chargeAt (ws_X7_chargeAt) rm_X7_chargeAt SH s [.ref 0, .int v1, .int v2] (some (.int o.1)) o.2 :=
  Ctr.of (by decide) rfl (Nat.le_of_ble_eq_true rfl) (fun X C Rr => by show XW NM X 3 0 0 SH s 0 [(0, .ref 0), (1, .int v1), (2, .int v2)] []; exact w_X7_chargeAt_0 C Rr s v1 v2 hf)
abbrev ws_X7_when : List Cond := Cond.code yX7_when cX7_when 3 (some .int) :: AW
abbrev rm_X7_when : Room := { frames := 3, cells := 0, slots := 0, locals := 67 }
def c_X7_when_0 (N : Nat) (s : Sg) (v1 : Int32) : Option (Int32 × Sg) :=
bd (f_X7_within s v1 ((0:Int32)) ((s 4 3) - ((1:Int32)))) (fun r2 s1 => if r2 = 0 then
 some ((-2:Int32), s1)
 else
 lt_ (s1 7 0) (fun x3 => if v1 < (s1 3 1) then
 some ((-1:Int32), s1)
 else
 if 0 < x3 then
 bd (f_X0_coalDownFrom N s1 v1) (fun r5 s4 => gd (!decide (x3 = 0)) (some (((r5 + x3) - ((1:Int32))) / x3, s4)))
 else
 some ((-1:Int32), s1)))
set_option maxHeartbeats 4000000 in
set_option maxRecDepth 100000 in
theorem w_X7_when_0 {X : Ctx} {N : Nat} {o : Int32 × Sg} (C : Cx NM X cX7_when 3 RX7 (ws_X7_when) (some .int) rm_X7_when) (Rr : Rx NM X 0 0 (some (.int o.1)) SH o.2) (s : Sg) (v1 : Int32) (hf : c_X7_when_0 N s v1 = some o) : XW NM X 3 0 0 SH s 0 [(0, .ref 0), (1, .int v1)] [] := by
  unfold c_X7_when_0 at hf
  refine X_iload_n C 1 dX7_when_0 rfl rfl ?_
  refine X_iconst (v := (0:Int32)) C dX7_when_1 (by decide) ?_
  refine X_aload_n C 0 dX7_when_2 rfl rfl ?_
  refine X_getr C 2 sh_0 nc_7 inM_7 (by decide) (mc wd_59) rfl dX7_when_3 ?_
  refine X_getrN C 0 sh_3 nc_0 inM_0 (by decide) nf_X7_98 rfl dX7_when_6 ?_
  refine X_getiN C 3 sh_4 nc_6 inM_6 (by decide) nf_X7_109 rfl dX7_when_9 ?_
  refine X_iconst (v := (1:Int32)) C dX7_when_12 (by decide) ?_
  refine X_isub C dX7_when_13 ?_
  refine X_callSi (As := [.int v1, .int ((0:Int32)), .int ((s 4 3) - ((1:Int32)))]) (rest := []) C aw_ok mcs lk_X7_90 (by decide) rfl rfl (Nat.le_of_ble_eq_true rfl) dX7_when_14 hf (fun r s h => k_X7_within _ _ _ _ (r, s) h) (fun r2 s1 hf => ?_)
  refine X_if_ne (tgt := 23) C dX7_when_17 (by decide) hf (fun hf => ?_) (fun hf => ?_)
  · refine X_aload_n C 0 dX7_when_23 rfl rfl ?_
    refine X_getr C 4 sh_0 nc_7 inM_7 (by decide) (mc wd_60) rfl dX7_when_24 ?_
    refine X_getiN C 0 sh_7 nc_1 inM_1 (by decide) nf_X7_116 rfl dX7_when_27 ?_
    refine X_nm hf (fun x3 hf => ?_)
    refine X_istore_n (L' := [(0, .ref 0), (1, .int v1), (2, .int x3)]) C [1, 2, 0] dX7_when_30 rfl (by decide) rfl ?_
    refine X_iload_n C 1 dX7_when_31 rfl rfl ?_
    refine X_aload_n C 0 dX7_when_32 rfl rfl ?_
    refine X_getr C 2 sh_0 nc_7 inM_7 (by decide) (mc wd_59) rfl dX7_when_33 ?_
    refine X_getiN C 1 sh_3 nc_0 inM_0 (by decide) nf_X7_119 rfl dX7_when_36 ?_
    refine X_icmp_lt (tgt := 46) C dX7_when_39 (by decide) hf (fun hf => ?_) (fun hf => ?_)
    · refine X_iconst (v := (-1:Int32)) C dX7_when_46 (by decide) ?_
      exact X_iret C dX7_when_47 hf Rr
    · refine X_iload_n C 2 dX7_when_42 rfl rfl ?_
      refine X_if_gt (tgt := 48) C dX7_when_43 (by decide) hf (fun hf => ?_) (fun hf => ?_)
      · refine X_aload_n C 0 dX7_when_48 rfl rfl ?_
        refine X_getr C 2 sh_0 nc_7 inM_7 (by decide) (mc wd_59) rfl dX7_when_49 ?_
        refine X_iload_n C 1 dX7_when_52 rfl rfl ?_
        refine X_callVi (As := [.int v1]) (rest := []) C aw_ok mcs lk_X7_122 sh_3 nc_0 (by decide) rfl rfl (Nat.le_of_ble_eq_true rfl) dX7_when_53 hf (fun r s h => k_X0_coalDownFrom _ _ (r, s) h) (fun r5 s4 hf => ?_)
        refine X_iload_n C 2 dX7_when_56 rfl rfl ?_
        refine X_iadd C dX7_when_57 ?_
        refine X_iconst (v := (1:Int32)) C dX7_when_58 (by decide) ?_
        refine X_isub C dX7_when_59 ?_
        refine X_iload_n C 2 dX7_when_60 rfl rfl ?_
        refine X_idiv C dX7_when_61 hf (fun hf => ?_)
        exact X_iret C dX7_when_62 hf Rr
      · refine X_iconst (v := (-1:Int32)) C dX7_when_46 (by decide) ?_
        exact X_iret C dX7_when_47 hf Rr
  · refine X_bipush (v := (-2:Int32)) C dX7_when_20 (by decide) ?_
    exact X_iret C dX7_when_22 hf Rr
def f_X7_when (N : Nat) (s : Sg) (v1 : Int32) : Option (Int32 × Sg) := c_X7_when_0 N s v1
theorem k_X7_when {N : Nat} (s : Sg) (v1 : Int32) (o : Int32 × Sg) (hf : f_X7_when N s v1 = some o) : Ctr NM yX7_when (ws_X7_when) rm_X7_when SH s [.ref 0, .int v1] (some (.int o.1)) o.2 :=
  Ctr.of (by decide) rfl (Nat.le_of_ble_eq_true rfl) (fun X C Rr => by show XW NM X 3 0 0 SH s 0 [(0, .ref 0), (1, .int v1)] []; exact w_X7_when_0 C Rr s v1 hf)
abbrev ws_X7_blast : List Cond := Cond.code yX7_blast cX7_blast 3 (some .int) :: AW
abbrev rm_X7_blast : Room := { frames := 1, cells := 0, slots := 0, locals := 22 }
def c_X7_blast_0 (s : Sg) (v1 : Int32) : Option (Int32 × Sg) :=
bd (f_X7_within s v1 ((0:Int32)) ((20:Int32))) (fun r2 s1 => if r2 = 0 then
 some ((-2:Int32), s1)
 else
 lt_ (s1 7 0) (fun x3 => lt_ (sgu s1 7 0 v1) (fun s4 => some (x3, s4))))
set_option maxHeartbeats 4000000 in
set_option maxRecDepth 100000 in
theorem w_X7_blast_0 {X : Ctx} {o : Int32 × Sg} (C : Cx NM X cX7_blast 3 RX7 (ws_X7_blast) (some .int) rm_X7_blast) (Rr : Rx NM X 0 0 (some (.int o.1)) SH o.2) (s : Sg) (v1 : Int32) (hf : c_X7_blast_0 s v1 = some o) : XW NM X 3 0 0 SH s 0 [(0, .ref 0), (1, .int v1)] [] := by
  unfold c_X7_blast_0 at hf
  refine X_iload_n C 1 dX7_blast_0 rfl rfl ?_
  refine X_iconst (v := (0:Int32)) C dX7_blast_1 (by decide) ?_
  refine X_bipush (v := (20:Int32)) C dX7_blast_2 (by decide) ?_
  refine X_callSi (As := [.int v1, .int ((0:Int32)), .int ((20:Int32))]) (rest := []) C aw_ok mcs lk_X7_90 (by decide) rfl rfl (Nat.le_of_ble_eq_true rfl) dX7_blast_4 hf (fun r s h => k_X7_within _ _ _ _ (r, s) h) (fun r2 s1 hf => ?_)
  refine X_if_ne (tgt := 13) C dX7_blast_7 (by decide) hf (fun hf => ?_) (fun hf => ?_)
  · refine X_aload_n C 0 dX7_blast_13 rfl rfl ?_
    refine X_getr C 4 sh_0 nc_7 inM_7 (by decide) (mc wd_60) rfl dX7_blast_14 ?_
    refine X_getiN C 0 sh_7 nc_1 inM_1 (by decide) nf_X7_116 rfl dX7_blast_17 ?_
    refine X_nm hf (fun x3 hf => ?_)
    refine X_istore_n (L' := [(0, .ref 0), (1, .int v1), (2, .int x3)]) C [1, 2, 0] dX7_blast_20 rfl (by decide) rfl ?_
    refine X_aload_n C 0 dX7_blast_21 rfl rfl ?_
    refine X_getr C 4 sh_0 nc_7 inM_7 (by decide) (mc wd_60) rfl dX7_blast_22 ?_
    refine X_iload_n C 1 dX7_blast_25 rfl rfl ?_
    refine X_putiN C 0 sh_7 nc_1 inM_1 (by decide) tyX1 tyX1_ok nmX1 nf_X7_116 rfl (by decide +kernel) rfl dX7_blast_26 hf (fun s4 hf => ?_)
    refine X_iload_n C 2 dX7_blast_29 rfl rfl ?_
    exact X_iret C dX7_blast_30 hf Rr
  · refine X_bipush (v := (-2:Int32)) C dX7_blast_10 (by decide) ?_
    exact X_iret C dX7_blast_12 hf Rr
def f_X7_blast (s : Sg) (v1 : Int32) : Option (Int32 × Sg) := c_X7_blast_0 s v1
theorem k_X7_blast (s : Sg) (v1 : Int32) (o : Int32 × Sg) (hf : f_X7_blast s v1 = some o) : Ctr NM yX7_blast (ws_X7_blast) rm_X7_blast SH s [.ref 0, .int v1] (some (.int o.1)) o.2 :=
  Ctr.of (by decide) rfl (Nat.le_of_ble_eq_true rfl) (fun X C Rr => by show XW NM X 3 0 0 SH s 0 [(0, .ref 0), (1, .int v1)] []; exact w_X7_blast_0 C Rr s v1 hf)
abbrev ws_X7_hearth : List Cond := Cond.code yX7_hearth cX7_hearth 3 (some .int) :: AW
abbrev rm_X7_hearth : Room := { frames := 1, cells := 0, slots := 0, locals := 22 }
def c_X7_hearth_0 (s : Sg) (v1 : Int32) (v2 : Int32) : Option (Int32 × Sg) :=
bd (f_X7_within s v1 ((1:Int32)) ((500:Int32))) (fun r2 s1 => if r2 = 0 then
 some ((-2:Int32), s1)
 else
 bd (f_X7_within s1 v2 ((1:Int32)) ((100000:Int32))) (fun r4 s3 => if r4 = 0 then
 some ((-2:Int32), s3)
 else
 lt_ (sgu s3 6 1 v1) (fun s5 => lt_ (sgu s5 7 5 v2) (fun s6 => some ((1:Int32), s6)))))
set_option maxHeartbeats 4000000 in
set_option maxRecDepth 100000 in
theorem w_X7_hearth_0 {X : Ctx} {o : Int32 × Sg} (C : Cx NM X cX7_hearth 3 RX7 (ws_X7_hearth) (some .int) rm_X7_hearth) (Rr : Rx NM X 0 0 (some (.int o.1)) SH o.2) (s : Sg) (v1 : Int32) (v2 : Int32) (hf : c_X7_hearth_0 s v1 v2 = some o) : XW NM X 3 0 0 SH s 0 [(0, .ref 0), (1, .int v1), (2, .int v2)] [] := by
  unfold c_X7_hearth_0 at hf
  refine X_iload_n C 1 dX7_hearth_0 rfl rfl ?_
  refine X_iconst (v := (1:Int32)) C dX7_hearth_1 (by decide) ?_
  refine X_sipush (v := (500:Int32)) C dX7_hearth_2 (by decide) ?_
  refine X_callSi (As := [.int v1, .int ((1:Int32)), .int ((500:Int32))]) (rest := []) C aw_ok mcs lk_X7_90 (by decide) rfl rfl (Nat.le_of_ble_eq_true rfl) dX7_hearth_5 hf (fun r s h => k_X7_within _ _ _ _ (r, s) h) (fun r2 s1 hf => ?_)
  refine X_if_eq (tgt := 21) C dX7_hearth_8 (by decide) hf (fun hf => ?_) (fun hf => ?_)
  · refine X_bipush (v := (-2:Int32)) C dX7_hearth_21 (by decide) ?_
    exact X_iret C dX7_hearth_23 hf Rr
  · refine X_iload_n C 2 dX7_hearth_11 rfl rfl ?_
    refine X_iconst (v := (1:Int32)) C dX7_hearth_12 (by decide) ?_
    refine X_ldc (v := (100000:Int32)) C (mc wd_61) dX7_hearth_13 ?_
    refine X_callSi (As := [.int v2, .int ((1:Int32)), .int ((100000:Int32))]) (rest := []) C aw_ok mcs lk_X7_90 (by decide) rfl rfl (Nat.le_of_ble_eq_true rfl) dX7_hearth_15 hf (fun r s h => k_X7_within _ _ _ _ (r, s) h) (fun r4 s3 hf => ?_)
    refine X_if_ne (tgt := 24) C dX7_hearth_18 (by decide) hf (fun hf => ?_) (fun hf => ?_)
    · refine X_aload_n C 0 dX7_hearth_24 rfl rfl ?_
      refine X_getr C 3 sh_0 nc_7 inM_7 (by decide) (mc wd_62) rfl dX7_hearth_25 ?_
      refine X_iload_n C 1 dX7_hearth_28 rfl rfl ?_
      refine X_putiN C 1 sh_6 nc_2 inM_2 (by decide) tyX2 tyX2_ok nmX2 nf_X7_127 rfl (by decide +kernel) rfl dX7_hearth_29 hf (fun s5 hf => ?_)
      refine X_aload_n C 0 dX7_hearth_32 rfl rfl ?_
      refine X_getr C 4 sh_0 nc_7 inM_7 (by decide) (mc wd_60) rfl dX7_hearth_33 ?_
      refine X_iload_n C 2 dX7_hearth_36 rfl rfl ?_
      refine X_putiN C 5 sh_7 nc_1 inM_1 (by decide) tyX1 tyX1_ok nmX1 nf_X7_130 rfl (by decide +kernel) rfl dX7_hearth_37 hf (fun s6 hf => ?_)
      refine X_iconst (v := (1:Int32)) C dX7_hearth_40 (by decide) ?_
      exact X_iret C dX7_hearth_41 hf Rr
    · refine X_bipush (v := (-2:Int32)) C dX7_hearth_21 (by decide) ?_
      exact X_iret C dX7_hearth_23 hf Rr
def f_X7_hearth (s : Sg) (v1 : Int32) (v2 : Int32) : Option (Int32 × Sg) := c_X7_hearth_0 s v1 v2
theorem k_X7_hearth (s : Sg) (v1 : Int32) (v2 : Int32) (o : Int32 × Sg) (hf : f_X7_hearth s v1 v2 = some o) : Ctr NM yX7_hearth (ws_X7_hearth) rm_X7_hearth SH s [.ref 0, .int v1, .int v2] (some (.int o.1)) o.2 :=
  Ctr.of (by decide) rfl (Nat.le_of_ble_eq_true rfl) (fun X C Rr => by show XW NM X 3 0 0 SH s 0 [(0, .ref 0), (1, .int v1), (2, .int v2)] []; exact w_X7_hearth_0 C Rr s v1 v2 hf)
abbrev ws_X7_isCalledFor : List Cond := Cond.code yX7_isCalledFor cX7_isCalledFor 5 (some .boolean) :: AW
abbrev rm_X7_isCalledFor : Room := { frames := 2, cells := 0, slots := 0, locals := 44 }
def c_X7_isCalledFor_0 (s : Sg) (v1 : Int32) : Option (Int32 × Sg) :=
bd (f_X6_get 13 32 s v1 ((0:Int32))) (fun r2 s1 => bd (f_X7_within s1 r2 ((0:Int32)) ((2:Int32))) (fun r4 s3 => if r4 = 0 then
 gd (bz ((0:Int32))) (some ((0:Int32), s3))
 else
 gd (vi r2 3) (lt_ (s3 11 r2.toNatClampNeg) (fun x5 => if x5 = ((-1:Int32)) then
 gd (bz ((0:Int32))) (some ((0:Int32), s3))
 else
 bd (f_X6_get 13 32 s3 v1 ((2:Int32))) (fun r7 s6 => bd (f_X6_get 13 32 s6 v1 ((1:Int32))) (fun r9 s8 => if r9 = ((1:Int32)) then
 if x5 ≤ r7 then
 gd (bz ((0:Int32))) (some ((0:Int32), s8))
 else
 gd (bz ((1:Int32))) (some ((1:Int32), s8))
 else
 if r7 ≤ x5 then
 gd (bz ((0:Int32))) (some ((0:Int32), s8))
 else
 gd (bz ((1:Int32))) (some ((1:Int32), s8))))))))
set_option maxHeartbeats 4000000 in
set_option maxRecDepth 100000 in
theorem w_X7_isCalledFor_0 {X : Ctx} {o : Int32 × Sg} (C : Cx NM X cX7_isCalledFor 5 RX7 (ws_X7_isCalledFor) (some .boolean) rm_X7_isCalledFor) (Rr : Rx NM X 0 0 (some (.int o.1)) SH o.2) (s : Sg) (v1 : Int32) (hf : c_X7_isCalledFor_0 s v1 = some o) : XW NM X 5 0 0 SH s 0 [(0, .ref 0), (1, .int v1)] [] := by
  unfold c_X7_isCalledFor_0 at hf
  refine X_aload_n C 0 dX7_isCalledFor_0 rfl rfl ?_
  refine X_getr C 7 sh_0 nc_7 inM_7 (by decide) (mc wd_63) rfl dX7_isCalledFor_1 ?_
  refine X_iload_n C 1 dX7_isCalledFor_4 rfl rfl ?_
  refine X_iconst (v := (0:Int32)) C dX7_isCalledFor_5 (by decide) ?_
  refine X_callVi (As := [.int v1, .int ((0:Int32))]) (rest := []) C aw_ok mcs lk_X7_112 sh_13 nc_6 (by decide) rfl rfl (Nat.le_of_ble_eq_true rfl) dX7_isCalledFor_6 hf (fun r s h => k_X6_get sh_13 sh_14 _ _ _ (r, s) h) (fun r2 s1 hf => ?_)
  refine X_istore_n (L' := [(0, .ref 0), (1, .int v1), (2, .int r2)]) C [1, 2, 0] dX7_isCalledFor_9 rfl (by decide) rfl ?_
  refine X_iload_n C 2 dX7_isCalledFor_10 rfl rfl ?_
  refine X_iconst (v := (0:Int32)) C dX7_isCalledFor_11 (by decide) ?_
  refine X_iconst (v := (2:Int32)) C dX7_isCalledFor_12 (by decide) ?_
  refine X_callSi (As := [.int r2, .int ((0:Int32)), .int ((2:Int32))]) (rest := []) C aw_ok mcs lk_X7_90 (by decide) rfl rfl (Nat.le_of_ble_eq_true rfl) dX7_isCalledFor_13 hf (fun r s h => k_X7_within _ _ _ _ (r, s) h) (fun r4 s3 hf => ?_)
  refine X_if_ne (tgt := 21) C dX7_isCalledFor_16 (by decide) hf (fun hf => ?_) (fun hf => ?_)
  · refine X_aload_n C 0 dX7_isCalledFor_21 rfl rfl ?_
    refine X_getr C 6 sh_0 nc_7 inM_7 (by decide) (mc wd_64) rfl dX7_isCalledFor_22 ?_
    refine X_getrN C 0 sh_10 nc_5 inM_5 (by decide) nf_X7_180 rfl dX7_isCalledFor_25 ?_
    refine X_iload_n C 2 dX7_isCalledFor_28 rfl rfl ?_
    refine X_iald C sh_11 dX7_isCalledFor_29 hf (fun hf => ?_)
    refine X_nm hf (fun x5 hf => ?_)
    refine X_istore_n (L' := [(0, .ref 0), (1, .int v1), (2, .int r2), (3, .int x5)]) C [1, 2, 3, 0] dX7_isCalledFor_30 rfl (by decide) rfl ?_
    refine X_iload_n C 3 dX7_isCalledFor_31 rfl rfl ?_
    refine X_iconst (v := (-1:Int32)) C dX7_isCalledFor_32 (by decide) ?_
    refine X_icmp_ne (tgt := 38) C dX7_isCalledFor_33 (by decide) hf (fun hf => ?_) (fun hf => ?_)
    · refine X_aload_n C 0 dX7_isCalledFor_38 rfl rfl ?_
      refine X_getr C 7 sh_0 nc_7 inM_7 (by decide) (mc wd_63) rfl dX7_isCalledFor_39 ?_
      refine X_iload_n C 1 dX7_isCalledFor_42 rfl rfl ?_
      refine X_iconst (v := (2:Int32)) C dX7_isCalledFor_43 (by decide) ?_
      refine X_callVi (As := [.int v1, .int ((2:Int32))]) (rest := []) C aw_ok mcs lk_X7_112 sh_13 nc_6 (by decide) rfl rfl (Nat.le_of_ble_eq_true rfl) dX7_isCalledFor_44 hf (fun r s h => k_X6_get sh_13 sh_14 _ _ _ (r, s) h) (fun r7 s6 hf => ?_)
      refine X_istore (L' := [(0, .ref 0), (1, .int v1), (2, .int r2), (3, .int x5), (4, .int r7)]) C [1, 2, 3, 4, 0] dX7_isCalledFor_47 (by decide) rfl ?_
      refine X_aload_n C 0 dX7_isCalledFor_49 rfl rfl ?_
      refine X_getr C 7 sh_0 nc_7 inM_7 (by decide) (mc wd_63) rfl dX7_isCalledFor_50 ?_
      refine X_iload_n C 1 dX7_isCalledFor_53 rfl rfl ?_
      refine X_iconst (v := (1:Int32)) C dX7_isCalledFor_54 (by decide) ?_
      refine X_callVi (As := [.int v1, .int ((1:Int32))]) (rest := []) C aw_ok mcs lk_X7_112 sh_13 nc_6 (by decide) rfl rfl (Nat.le_of_ble_eq_true rfl) dX7_isCalledFor_55 hf (fun r s h => k_X6_get sh_13 sh_14 _ _ _ (r, s) h) (fun r9 s8 hf => ?_)
      refine X_iconst (v := (1:Int32)) C dX7_isCalledFor_58 (by decide) ?_
      refine X_icmp_ne (tgt := 76) C dX7_isCalledFor_59 (by decide) hf (fun hf => ?_) (fun hf => ?_)
      · refine X_iload_n C 3 dX7_isCalledFor_76 rfl rfl ?_
        refine X_iload C 4 dX7_isCalledFor_77 rfl ?_
        refine X_icmp_ge (tgt := 86) C dX7_isCalledFor_79 (by decide) hf (fun hf => ?_) (fun hf => ?_)
        · refine X_iconst (v := (0:Int32)) C dX7_isCalledFor_86 (by decide) ?_
          exact X_zret C dX7_isCalledFor_87 hf Rr
        · refine X_iconst (v := (1:Int32)) C dX7_isCalledFor_82 (by decide) ?_
          refine X_goto (tgt := 87) C dX7_isCalledFor_83 (by decide) ?_
          exact X_zret C dX7_isCalledFor_87 hf Rr
      · refine X_iload_n C 3 dX7_isCalledFor_62 rfl rfl ?_
        refine X_iload C 4 dX7_isCalledFor_63 rfl ?_
        refine X_icmp_le (tgt := 72) C dX7_isCalledFor_65 (by decide) hf (fun hf => ?_) (fun hf => ?_)
        · refine X_iconst (v := (0:Int32)) C dX7_isCalledFor_72 (by decide) ?_
          refine X_goto (tgt := 87) C dX7_isCalledFor_73 (by decide) ?_
          exact X_zret C dX7_isCalledFor_87 hf Rr
        · refine X_iconst (v := (1:Int32)) C dX7_isCalledFor_68 (by decide) ?_
          refine X_goto (tgt := 87) C dX7_isCalledFor_69 (by decide) ?_
          exact X_zret C dX7_isCalledFor_87 hf Rr
    · refine X_iconst (v := (0:Int32)) C dX7_isCalledFor_36 (by decide) ?_
      exact X_zret C dX7_isCalledFor_37 hf Rr
  · refine X_iconst (v := (0:Int32)) C dX7_isCalledFor_19 (by decide) ?_
    exact X_zret C dX7_isCalledFor_20 hf Rr
def f_X7_isCalledFor (s : Sg) (v1 : Int32) : Option (Int32 × Sg) := c_X7_isCalledFor_0 s v1
theorem k_X7_isCalledFor (s : Sg) (v1 : Int32) (o : Int32 × Sg) (hf : f_X7_isCalledFor s v1 = some o) : Ctr NM yX7_isCalledFor (ws_X7_isCalledFor) rm_X7_isCalledFor SH s [.ref 0, .int v1] (some (.int o.1)) o.2 :=
  Ctr.of (by decide) rfl (Nat.le_of_ble_eq_true rfl) (fun X C Rr => by show XW NM X 5 0 0 SH s 0 [(0, .ref 0), (1, .int v1)] []; exact w_X7_isCalledFor_0 C Rr s v1 hf)
abbrev ws_X7_castPig : List Cond := Cond.code yX7_castPig cX7_castPig 2 (some .int) :: AW
abbrev rm_X7_castPig : Room := { frames := 2, cells := 0, slots := 0, locals := 45 }
def c_X7_castPig_0 (s : Sg) : Option (Int32 × Sg) :=
if 0 < (s 6 0) then
 bd (f_X6_isFull 8 360 s) (fun r2 s1 => if r2 = 0 then
 bd (f_X6_add 8 360 s1) (fun r4 s3 => bdv (f_X6_set 8 360 s3 r4 ((0:Int32)) (s3 6 0)) (fun s5 => bdv (f_X6_set 8 360 s5 r4 ((1:Int32)) (s5 6 6)) (fun s7 => bdv (f_X6_set 8 360 s7 r4 ((2:Int32)) (s7 6 4)) (fun s9 => bdv (f_X6_set 8 360 s9 r4 ((3:Int32)) (s9 6 5)) (fun s11 => bdv (f_X6_set 8 360 s11 r4 ((4:Int32)) (s11 7 6)) (fun s13 => bdv (f_X6_set 8 360 s13 r4 ((5:Int32)) ((-1:Int32))) (fun s15 => bdv (f_X2_empty s15) (fun s17 => some (r4, s17)))))))))
 else
 some ((-4:Int32), s1))
 else
 some ((-1:Int32), s)
set_option maxHeartbeats 4000000 in
set_option maxRecDepth 100000 in
theorem w_X7_castPig_0 {X : Ctx} {o : Int32 × Sg} (C : Cx NM X cX7_castPig 2 RX7 (ws_X7_castPig) (some .int) rm_X7_castPig) (Rr : Rx NM X 0 0 (some (.int o.1)) SH o.2) (s : Sg) (hf : c_X7_castPig_0 s = some o) : XW NM X 2 0 0 SH s 0 [(0, .ref 0)] [] := by
  unfold c_X7_castPig_0 at hf
  refine X_aload_n C 0 dX7_castPig_0 rfl rfl ?_
  refine X_getr C 3 sh_0 nc_7 inM_7 (by decide) (mc wd_62) rfl dX7_castPig_1 ?_
  refine X_getiN C 0 sh_6 nc_2 inM_2 (by decide) nf_X7_153 rfl dX7_castPig_4 ?_
  refine X_if_gt (tgt := 12) C dX7_castPig_7 (by decide) hf (fun hf => ?_) (fun hf => ?_)
  · refine X_aload_n C 0 dX7_castPig_12 rfl rfl ?_
    refine X_getr C 5 sh_0 nc_7 inM_7 (by decide) (mc wd_65) rfl dX7_castPig_13 ?_
    refine X_callVi (As := []) (rest := []) C aw_ok mcs lk_X7_101 sh_8 nc_6 (by decide) rfl rfl (Nat.le_of_ble_eq_true rfl) dX7_castPig_16 hf (fun r s h => k_X6_isFull sh_8 sh_9 _ (r, s) h) (fun r2 s1 hf => ?_)
    refine X_if_eq (tgt := 25) C dX7_castPig_19 (by decide) hf (fun hf => ?_) (fun hf => ?_)
    · refine X_aload_n C 0 dX7_castPig_25 rfl rfl ?_
      refine X_getr C 5 sh_0 nc_7 inM_7 (by decide) (mc wd_65) rfl dX7_castPig_26 ?_
      refine X_callVi (As := []) (rest := []) C aw_ok mcs lk_X7_186 sh_8 nc_6 (by decide) rfl rfl (Nat.le_of_ble_eq_true rfl) dX7_castPig_29 hf (fun r s h => k_X6_add sh_8 sh_9 _ (r, s) h) (fun r4 s3 hf => ?_)
      refine X_istore_n (L' := [(0, .ref 0), (1, .int r4)]) C [1, 0] dX7_castPig_32 rfl (by decide) rfl ?_
      refine X_aload_n C 0 dX7_castPig_33 rfl rfl ?_
      refine X_getr C 5 sh_0 nc_7 inM_7 (by decide) (mc wd_65) rfl dX7_castPig_34 ?_
      refine X_iload_n C 1 dX7_castPig_37 rfl rfl ?_
      refine X_iconst (v := (0:Int32)) C dX7_castPig_38 (by decide) ?_
      refine X_aload_n C 0 dX7_castPig_39 rfl rfl ?_
      refine X_getr C 3 sh_0 nc_7 inM_7 (by decide) (mc wd_62) rfl dX7_castPig_40 ?_
      refine X_getiN C 0 sh_6 nc_2 inM_2 (by decide) nf_X7_153 rfl dX7_castPig_43 ?_
      refine X_callVv (As := [.int r4, .int ((0:Int32)), .int (s3 6 0)]) (rest := []) C aw_ok mcs lk_X7_86 sh_8 nc_6 (by decide) rfl rfl (Nat.le_of_ble_eq_true rfl) dX7_castPig_46 hf (fun s h => k_X6_set sh_8 sh_9 _ _ _ _ s h) (fun s5 hf => ?_)
      refine X_aload_n C 0 dX7_castPig_49 rfl rfl ?_
      refine X_getr C 5 sh_0 nc_7 inM_7 (by decide) (mc wd_65) rfl dX7_castPig_50 ?_
      refine X_iload_n C 1 dX7_castPig_53 rfl rfl ?_
      refine X_iconst (v := (1:Int32)) C dX7_castPig_54 (by decide) ?_
      refine X_aload_n C 0 dX7_castPig_55 rfl rfl ?_
      refine X_getr C 3 sh_0 nc_7 inM_7 (by decide) (mc wd_62) rfl dX7_castPig_56 ?_
      refine X_getiN C 6 sh_6 nc_2 inM_2 (by decide) nf_X7_233 rfl dX7_castPig_59 ?_
      refine X_callVv (As := [.int r4, .int ((1:Int32)), .int (s5 6 6)]) (rest := []) C aw_ok mcs lk_X7_86 sh_8 nc_6 (by decide) rfl rfl (Nat.le_of_ble_eq_true rfl) dX7_castPig_62 hf (fun s h => k_X6_set sh_8 sh_9 _ _ _ _ s h) (fun s7 hf => ?_)
      refine X_aload_n C 0 dX7_castPig_65 rfl rfl ?_
      refine X_getr C 5 sh_0 nc_7 inM_7 (by decide) (mc wd_65) rfl dX7_castPig_66 ?_
      refine X_iload_n C 1 dX7_castPig_69 rfl rfl ?_
      refine X_iconst (v := (2:Int32)) C dX7_castPig_70 (by decide) ?_
      refine X_aload_n C 0 dX7_castPig_71 rfl rfl ?_
      refine X_getr C 3 sh_0 nc_7 inM_7 (by decide) (mc wd_62) rfl dX7_castPig_72 ?_
      refine X_getiN C 4 sh_6 nc_2 inM_2 (by decide) nf_X7_236 rfl dX7_castPig_75 ?_
      refine X_callVv (As := [.int r4, .int ((2:Int32)), .int (s7 6 4)]) (rest := []) C aw_ok mcs lk_X7_86 sh_8 nc_6 (by decide) rfl rfl (Nat.le_of_ble_eq_true rfl) dX7_castPig_78 hf (fun s h => k_X6_set sh_8 sh_9 _ _ _ _ s h) (fun s9 hf => ?_)
      refine X_aload_n C 0 dX7_castPig_81 rfl rfl ?_
      refine X_getr C 5 sh_0 nc_7 inM_7 (by decide) (mc wd_65) rfl dX7_castPig_82 ?_
      refine X_iload_n C 1 dX7_castPig_85 rfl rfl ?_
      refine X_iconst (v := (3:Int32)) C dX7_castPig_86 (by decide) ?_
      refine X_aload_n C 0 dX7_castPig_87 rfl rfl ?_
      refine X_getr C 3 sh_0 nc_7 inM_7 (by decide) (mc wd_62) rfl dX7_castPig_88 ?_
      refine X_getiN C 5 sh_6 nc_2 inM_2 (by decide) nf_X7_239 rfl dX7_castPig_91 ?_
      refine X_callVv (As := [.int r4, .int ((3:Int32)), .int (s9 6 5)]) (rest := []) C aw_ok mcs lk_X7_86 sh_8 nc_6 (by decide) rfl rfl (Nat.le_of_ble_eq_true rfl) dX7_castPig_94 hf (fun s h => k_X6_set sh_8 sh_9 _ _ _ _ s h) (fun s11 hf => ?_)
      refine X_aload_n C 0 dX7_castPig_97 rfl rfl ?_
      refine X_getr C 5 sh_0 nc_7 inM_7 (by decide) (mc wd_65) rfl dX7_castPig_98 ?_
      refine X_iload_n C 1 dX7_castPig_101 rfl rfl ?_
      refine X_iconst (v := (4:Int32)) C dX7_castPig_102 (by decide) ?_
      refine X_aload_n C 0 dX7_castPig_103 rfl rfl ?_
      refine X_getr C 4 sh_0 nc_7 inM_7 (by decide) (mc wd_60) rfl dX7_castPig_104 ?_
      refine X_getiN C 6 sh_7 nc_1 inM_1 (by decide) nf_X7_137 rfl dX7_castPig_107 ?_
      refine X_callVv (As := [.int r4, .int ((4:Int32)), .int (s11 7 6)]) (rest := []) C aw_ok mcs lk_X7_86 sh_8 nc_6 (by decide) rfl rfl (Nat.le_of_ble_eq_true rfl) dX7_castPig_110 hf (fun s h => k_X6_set sh_8 sh_9 _ _ _ _ s h) (fun s13 hf => ?_)
      refine X_aload_n C 0 dX7_castPig_113 rfl rfl ?_
      refine X_getr C 5 sh_0 nc_7 inM_7 (by decide) (mc wd_65) rfl dX7_castPig_114 ?_
      refine X_iload_n C 1 dX7_castPig_117 rfl rfl ?_
      refine X_iconst (v := (5:Int32)) C dX7_castPig_118 (by decide) ?_
      refine X_iconst (v := (-1:Int32)) C dX7_castPig_119 (by decide) ?_
      refine X_callVv (As := [.int r4, .int ((5:Int32)), .int ((-1:Int32))]) (rest := []) C aw_ok mcs lk_X7_86 sh_8 nc_6 (by decide) rfl rfl (Nat.le_of_ble_eq_true rfl) dX7_castPig_120 hf (fun s h => k_X6_set sh_8 sh_9 _ _ _ _ s h) (fun s15 hf => ?_)
      refine X_aload_n C 0 dX7_castPig_123 rfl rfl ?_
      refine X_getr C 3 sh_0 nc_7 inM_7 (by decide) (mc wd_62) rfl dX7_castPig_124 ?_
      refine X_callVv (As := []) (rest := []) C aw_ok mcs lk_X7_242 sh_6 nc_2 (by decide) rfl rfl (Nat.le_of_ble_eq_true rfl) dX7_castPig_127 hf (fun s h => k_X2_empty _ s h) (fun s17 hf => ?_)
      refine X_iload_n C 1 dX7_castPig_130 rfl rfl ?_
      exact X_iret C dX7_castPig_131 hf Rr
    · refine X_bipush (v := (-4:Int32)) C dX7_castPig_22 (by decide) ?_
      exact X_iret C dX7_castPig_24 hf Rr
  · refine X_iconst (v := (-1:Int32)) C dX7_castPig_10 (by decide) ?_
    exact X_iret C dX7_castPig_11 hf Rr
def f_X7_castPig (s : Sg) : Option (Int32 × Sg) := c_X7_castPig_0 s
theorem k_X7_castPig (s : Sg) (o : Int32 × Sg) (hf : f_X7_castPig s = some o) : Ctr NM yX7_castPig (ws_X7_castPig) rm_X7_castPig SH s [.ref 0] (some (.int o.1)) o.2 :=
  Ctr.of (by decide) rfl (Nat.le_of_ble_eq_true rfl) (fun X C Rr => by show XW NM X 2 0 0 SH s 0 [(0, .ref 0)] []; exact w_X7_castPig_0 C Rr s hf)
abbrev ws_X7_followRules : List Cond := Cond.code yX7_followRules cX7_followRules 3 none :: AW
abbrev rm_X7_followRules : Room := { frames := 3, cells := 0, slots := 0, locals := 68 }
def c_X7_followRules_95 (N : Nat) (K2 : Sg → Int32 → Option (Sg)) (s : Sg) (v1 : Int32) : Option (Sg) :=
K2 s (v1 + (1:Int32))
set_option maxHeartbeats 4000000 in
set_option maxRecDepth 100000 in
theorem w_X7_followRules_95 {X : Ctx} {N : Nat} {o : Sg} (C : Cx NM X cX7_followRules 3 RX7 (ws_X7_followRules) none rm_X7_followRules) (Rr : Rx NM X 0 0 none SH o) {K2 : Sg → Int32 → Option (Sg)} (hK2 : ∀ (s : Sg) (v1 : Int32), K2 s v1 = some o → XW NM X 3 0 0 SH s 2 [(0, .ref 0), (1, .int v1)] []) (s : Sg) (v1 : Int32) (hf : c_X7_followRules_95 N K2 s v1 = some o) : XW NM X 3 0 0 SH s 95 [(0, .ref 0), (1, .int v1)] [] := by
  unfold c_X7_followRules_95 at hf
  refine X_iinc (v := (1:Int32)) (L' := [(0, .ref 0), (1, .int (v1 + (1:Int32)))]) C 1 [1, 0] dX7_followRules_95 rfl (by decide) (by decide) rfl ?_
  refine X_goto (tgt := 2) C dX7_followRules_98 (by decide) ?_
  exact hK2 _ _ hf
def c_X7_followRules_2 (N : Nat) (K2 : Sg → Int32 → Option (Sg)) (s : Sg) (v1 : Int32) : Option (Sg) :=
if (s 13 3) ≤ v1 then
 some s
 else
 bd (f_X7_isCalledFor s v1) (fun r2 s1 => if r2 = 0 then
 c_X7_followRules_95 N K2 s1 v1
 else
 bd (f_X6_get 13 32 s1 v1 ((3:Int32))) (fun r4 s3 => if r4 = 0 then
 lt_ (sgu s3 7 0 ((if ((s3 7 0) + ((1:Int32))) < ((20:Int32)) then ((s3 7 0) + ((1:Int32))) else ((20:Int32))))) (fun s8 => c_X7_followRules_95 N K2 s8 v1)
 else
 if r4 = ((1:Int32)) then
 lt_ (sgu s3 7 0 ((if ((0:Int32)) < ((s3 7 0) - ((1:Int32))) then ((s3 7 0) - ((1:Int32))) else ((0:Int32))))) (fun s7 => c_X7_followRules_95 N K2 s7 v1)
 else
 bd (f_X7_castPig s3) (fun r6 s5 => c_X7_followRules_95 N K2 s5 v1)))
set_option maxHeartbeats 4000000 in
set_option maxRecDepth 100000 in
theorem w_X7_followRules_2 {X : Ctx} {N : Nat} {o : Sg} (C : Cx NM X cX7_followRules 3 RX7 (ws_X7_followRules) none rm_X7_followRules) (Rr : Rx NM X 0 0 none SH o) {K2 : Sg → Int32 → Option (Sg)} (hK2 : ∀ (s : Sg) (v1 : Int32), K2 s v1 = some o → XW NM X 3 0 0 SH s 2 [(0, .ref 0), (1, .int v1)] []) (s : Sg) (v1 : Int32) (hf : c_X7_followRules_2 N K2 s v1 = some o) : XW NM X 3 0 0 SH s 2 [(0, .ref 0), (1, .int v1)] [] := by
  unfold c_X7_followRules_2 at hf
  refine X_iload_n C 1 dX7_followRules_2 rfl rfl ?_
  refine X_aload_n C 0 dX7_followRules_3 rfl rfl ?_
  refine X_getr C 7 sh_0 nc_7 inM_7 (by decide) (mc wd_63) rfl dX7_followRules_4 ?_
  refine X_getiN C 3 sh_13 nc_6 inM_6 (by decide) nf_X7_109 rfl dX7_followRules_7 ?_
  refine X_icmp_ge (tgt := 101) C dX7_followRules_10 (by decide) hf (fun hf => ?_) (fun hf => ?_)
  · exact X_vret C dX7_followRules_101 hf Rr
  · refine X_aload_n C 0 dX7_followRules_13 rfl rfl ?_
    refine X_iload_n C 1 dX7_followRules_14 rfl rfl ?_
    refine X_callVi (As := [.int v1]) (rest := []) C aw_ok mcs lk_X7_245 sh_0 nc_7 (by decide) rfl rfl (Nat.le_of_ble_eq_true rfl) dX7_followRules_15 hf (fun r s h => k_X7_isCalledFor _ _ (r, s) h) (fun r2 s1 hf => ?_)
    refine X_if_ne (tgt := 24) C dX7_followRules_18 (by decide) hf (fun hf => ?_) (fun hf => ?_)
    · refine X_aload_n C 0 dX7_followRules_24 rfl rfl ?_
      refine X_getr C 7 sh_0 nc_7 inM_7 (by decide) (mc wd_63) rfl dX7_followRules_25 ?_
      refine X_iload_n C 1 dX7_followRules_28 rfl rfl ?_
      refine X_iconst (v := (3:Int32)) C dX7_followRules_29 (by decide) ?_
      refine X_callVi (As := [.int v1, .int ((3:Int32))]) (rest := []) C aw_ok mcs lk_X7_112 sh_13 nc_6 (by decide) rfl rfl (Nat.le_of_ble_eq_true rfl) dX7_followRules_30 hf (fun r s h => k_X6_get sh_13 sh_14 _ _ _ (r, s) h) (fun r4 s3 hf => ?_)
      refine X_istore_n (L' := [(0, .ref 0), (1, .int v1), (2, .int r4)]) C [1, 2, 0] dX7_followRules_33 rfl (by decide) rfl ?_
      refine X_iload_n C 2 dX7_followRules_34 rfl rfl ?_
      refine X_if_ne (tgt := 62) C dX7_followRules_35 (by decide) hf (fun hf => ?_) (fun hf => ?_)
      · refine X_iload_n C 2 dX7_followRules_62 rfl rfl ?_
        refine X_iconst (v := (1:Int32)) C dX7_followRules_63 (by decide) ?_
        refine X_icmp_ne (tgt := 90) C dX7_followRules_64 (by decide) hf (fun hf => ?_) (fun hf => ?_)
        · refine X_aload_n C 0 dX7_followRules_90 rfl rfl ?_
          refine X_callVi (As := []) (rest := []) C aw_ok mcs lk_X7_159 sh_0 nc_7 (by decide) rfl rfl (Nat.le_of_ble_eq_true rfl) dX7_followRules_91 hf (fun r s h => k_X7_castPig _ (r, s) h) (fun r6 s5 hf => ?_)
          refine X_pop C dX7_followRules_94 rfl ?_
          refine X_loc (L' := [(0, .ref 0), (1, .int v1)]) [0, 1] rfl ?_
          exact w_X7_followRules_95 C Rr hK2 _ _ hf
        · refine X_aload_n C 0 dX7_followRules_67 rfl rfl ?_
          refine X_getr C 4 sh_0 nc_7 inM_7 (by decide) (mc wd_60) rfl dX7_followRules_68 ?_
          refine X_iconst (v := (0:Int32)) C dX7_followRules_71 (by decide) ?_
          refine X_aload_n C 0 dX7_followRules_72 rfl rfl ?_
          refine X_getr C 4 sh_0 nc_7 inM_7 (by decide) (mc wd_60) rfl dX7_followRules_73 ?_
          refine X_getiN C 0 sh_7 nc_1 inM_1 (by decide) nf_X7_116 rfl dX7_followRules_76 ?_
          refine X_iconst (v := (1:Int32)) C dX7_followRules_79 (by decide) ?_
          refine X_isub C dX7_followRules_80 ?_
          refine X_mmax C (mc wd_66) (mc wd_19) (mc wd_9) (mc wd_20) ⟨Nat.le_of_ble_eq_true rfl, Nat.le_of_ble_eq_true rfl, Nat.zero_le _, Nat.zero_le _⟩ dX7_followRules_81 ?_
          refine X_putiN C 0 sh_7 nc_1 inM_1 (by decide) tyX1 tyX1_ok nmX1 nf_X7_116 rfl (by decide +kernel) rfl dX7_followRules_84 hf (fun s7 hf => ?_)
          refine X_goto (tgt := 95) C dX7_followRules_87 (by decide) ?_
          refine X_loc (L' := [(0, .ref 0), (1, .int v1)]) [0, 1] rfl ?_
          exact w_X7_followRules_95 C Rr hK2 _ _ hf
      · refine X_aload_n C 0 dX7_followRules_38 rfl rfl ?_
        refine X_getr C 4 sh_0 nc_7 inM_7 (by decide) (mc wd_60) rfl dX7_followRules_39 ?_
        refine X_bipush (v := (20:Int32)) C dX7_followRules_42 (by decide) ?_
        refine X_aload_n C 0 dX7_followRules_44 rfl rfl ?_
        refine X_getr C 4 sh_0 nc_7 inM_7 (by decide) (mc wd_60) rfl dX7_followRules_45 ?_
        refine X_getiN C 0 sh_7 nc_1 inM_1 (by decide) nf_X7_116 rfl dX7_followRules_48 ?_
        refine X_iconst (v := (1:Int32)) C dX7_followRules_51 (by decide) ?_
        refine X_iadd C dX7_followRules_52 ?_
        refine X_mmin C (mc wd_67) (mc wd_8) (mc wd_9) (mc wd_10) ⟨Nat.le_of_ble_eq_true rfl, Nat.le_of_ble_eq_true rfl, Nat.zero_le _, Nat.zero_le _⟩ dX7_followRules_53 ?_
        refine X_putiN C 0 sh_7 nc_1 inM_1 (by decide) tyX1 tyX1_ok nmX1 nf_X7_116 rfl (by decide +kernel) rfl dX7_followRules_56 hf (fun s8 hf => ?_)
        refine X_goto (tgt := 95) C dX7_followRules_59 (by decide) ?_
        refine X_loc (L' := [(0, .ref 0), (1, .int v1)]) [0, 1] rfl ?_
        exact w_X7_followRules_95 C Rr hK2 _ _ hf
    · refine X_goto (tgt := 95) C dX7_followRules_21 (by decide) ?_
      exact w_X7_followRules_95 C Rr hK2 _ _ hf
def b_X7_followRules_2 (N : Nat) : Nat → Sg → Int32 → Option (Sg)
  | 0, _, _ => none
  | j + 1, s, v1 => c_X7_followRules_2 N (b_X7_followRules_2 N j) s v1
theorem h_X7_followRules_2 {X : Ctx} {N : Nat} {o : Sg} (C : Cx NM X cX7_followRules 3 RX7 (ws_X7_followRules) none rm_X7_followRules) (Rr : Rx NM X 0 0 none SH o) : ∀ (j : Nat) (s : Sg) (v1 : Int32), b_X7_followRules_2 N j s v1 = some o → XW NM X 3 0 0 SH s 2 [(0, .ref 0), (1, .int v1)] [] := by
  intro j
  induction j with
  | zero => intro s v1 hf; cases (show none = some o from hf)
  | succ j ih => intro s v1 hf; exact w_X7_followRules_2 C Rr ih s v1 hf
def c_X7_followRules_0 (N : Nat) (s : Sg) : Option (Sg) :=
b_X7_followRules_2 N N s ((0:Int32))
set_option maxHeartbeats 4000000 in
set_option maxRecDepth 100000 in
theorem w_X7_followRules_0 {X : Ctx} {N : Nat} {o : Sg} (C : Cx NM X cX7_followRules 3 RX7 (ws_X7_followRules) none rm_X7_followRules) (Rr : Rx NM X 0 0 none SH o) (s : Sg) (hf : c_X7_followRules_0 N s = some o) : XW NM X 3 0 0 SH s 0 [(0, .ref 0)] [] := by
  unfold c_X7_followRules_0 at hf
  refine X_iconst (v := (0:Int32)) C dX7_followRules_0 (by decide) ?_
  refine X_istore_n (L' := [(0, .ref 0), (1, .int ((0:Int32)))]) C [1, 0] dX7_followRules_1 rfl (by decide) rfl ?_
  exact h_X7_followRules_2 C Rr _ _ _ hf
def f_X7_followRules (N : Nat) (s : Sg) : Option (Sg) := c_X7_followRules_0 N s
theorem k_X7_followRules {N : Nat} (s : Sg) (o : Sg) (hf : f_X7_followRules N s = some o) : Ctr NM yX7_followRules (ws_X7_followRules) rm_X7_followRules SH s [.ref 0] none o :=
  Ctr.of (by decide) rfl (Nat.le_of_ble_eq_true rfl) (fun X C Rr => by show XW NM X 3 0 0 SH s 0 [(0, .ref 0)] []; exact w_X7_followRules_0 C Rr s hf)
abbrev ws_X7_tick : List Cond := Cond.code yX7_tick cX7_tick 4 (some .int) :: AW
abbrev rm_X7_tick : Room := { frames := 4, cells := 0, slots := 0, locals := 99 }
def c_X7_tick_48 (N : Nat) (K48 : Sg → Int32 → Int32 → Int32 → Option (Int32 × Sg)) (s : Sg) (v1 : Int32) (v2 : Int32) (v3 : Int32) : Option (Int32 × Sg) :=
if v1 ≤ v3 then
 some (v2, s)
 else
 if (s 7 9) = 0 then
 bdv (f_X7_followRules N s) (fun s1 => bdv (f_X1_blow N s1) (fun s3 => gd (!decide (((10:Int32)) = 0)) (bdv (f_X5_look N s3 ((s3 7 1) / ((10:Int32))) (s3 7 3) (s3 6 0)) (fun s5 => K48 s5 v1 (v2 + (1:Int32)) (v3 + (1:Int32))))))
 else
 some (v2, s)
set_option maxHeartbeats 4000000 in
set_option maxRecDepth 100000 in
theorem w_X7_tick_48 {X : Ctx} {N : Nat} {o : Int32 × Sg} (C : Cx NM X cX7_tick 4 RX7 (ws_X7_tick) (some .int) rm_X7_tick) (Rr : Rx NM X 0 0 (some (.int o.1)) SH o.2) {K48 : Sg → Int32 → Int32 → Int32 → Option (Int32 × Sg)} (hK48 : ∀ (s : Sg) (v1 : Int32) (v2 : Int32) (v3 : Int32), K48 s v1 v2 v3 = some o → XW NM X 4 0 0 SH s 48 [(0, .ref 0), (1, .int v1), (2, .int v2), (3, .int v3)] []) (s : Sg) (v1 : Int32) (v2 : Int32) (v3 : Int32) (hf : c_X7_tick_48 N K48 s v1 v2 v3 = some o) : XW NM X 4 0 0 SH s 48 [(0, .ref 0), (1, .int v1), (2, .int v2), (3, .int v3)] [] := by
  unfold c_X7_tick_48 at hf
  refine X_iload_n C 3 dX7_tick_48 rfl rfl ?_
  refine X_iload_n C 1 dX7_tick_49 rfl rfl ?_
  refine X_icmp_ge (tgt := 126) C dX7_tick_50 (by decide) hf (fun hf => ?_) (fun hf => ?_)
  · refine X_iload_n C 2 dX7_tick_126 rfl rfl ?_
    exact X_iret C dX7_tick_127 hf Rr
  · refine X_aload_n C 0 dX7_tick_53 rfl rfl ?_
    refine X_getr C 4 sh_0 nc_7 inM_7 (by decide) (mc wd_60) rfl dX7_tick_54 ?_
    refine X_getiN C 9 sh_7 nc_1 inM_1 (by decide) nf_X7_133 rfl dX7_tick_57 ?_
    refine X_if_ne (tgt := 126) C dX7_tick_60 (by decide) hf (fun hf => ?_) (fun hf => ?_)
    · refine X_iload_n C 2 dX7_tick_126 rfl rfl ?_
      exact X_iret C dX7_tick_127 hf Rr
    · refine X_aload_n C 0 dX7_tick_63 rfl rfl ?_
      refine X_callVv (As := []) (rest := []) C aw_ok mcs lk_X7_140 sh_0 nc_7 (by decide) rfl rfl (Nat.le_of_ble_eq_true rfl) dX7_tick_64 hf (fun s h => k_X7_followRules _ s h) (fun s1 hf => ?_)
      refine X_aload_n C 0 dX7_tick_67 rfl rfl ?_
      refine X_getr C 4 sh_0 nc_7 inM_7 (by decide) (mc wd_60) rfl dX7_tick_68 ?_
      refine X_aload_n C 0 dX7_tick_71 rfl rfl ?_
      refine X_getr C 2 sh_0 nc_7 inM_7 (by decide) (mc wd_59) rfl dX7_tick_72 ?_
      refine X_aload_n C 0 dX7_tick_75 rfl rfl ?_
      refine X_getr C 3 sh_0 nc_7 inM_7 (by decide) (mc wd_62) rfl dX7_tick_76 ?_
      refine X_aload_n C 0 dX7_tick_79 rfl rfl ?_
      refine X_getr C 1 sh_0 nc_7 inM_7 (by decide) (mc wd_58) rfl dX7_tick_80 ?_
      refine X_callVv (As := [.ref 3, .ref 6, .ref 2]) (rest := []) C aw_ok mcs lk_X7_143 sh_7 nc_1 (by decide) rfl rfl (Nat.le_of_ble_eq_true rfl) dX7_tick_83 hf (fun s h => k_X1_blow _ s h) (fun s3 hf => ?_)
      refine X_aload_n C 0 dX7_tick_86 rfl rfl ?_
      refine X_getr C 6 sh_0 nc_7 inM_7 (by decide) (mc wd_64) rfl dX7_tick_87 ?_
      refine X_aload_n C 0 dX7_tick_90 rfl rfl ?_
      refine X_getr C 4 sh_0 nc_7 inM_7 (by decide) (mc wd_60) rfl dX7_tick_91 ?_
      refine X_getiN C 1 sh_7 nc_1 inM_1 (by decide) nf_X7_147 rfl dX7_tick_94 ?_
      refine X_bipush (v := (10:Int32)) C dX7_tick_97 (by decide) ?_
      refine X_idiv C dX7_tick_99 hf (fun hf => ?_)
      refine X_aload_n C 0 dX7_tick_100 rfl rfl ?_
      refine X_getr C 4 sh_0 nc_7 inM_7 (by decide) (mc wd_60) rfl dX7_tick_101 ?_
      refine X_getiN C 3 sh_7 nc_1 inM_1 (by decide) nf_X7_150 rfl dX7_tick_104 ?_
      refine X_aload_n C 0 dX7_tick_107 rfl rfl ?_
      refine X_getr C 3 sh_0 nc_7 inM_7 (by decide) (mc wd_62) rfl dX7_tick_108 ?_
      refine X_getiN C 0 sh_6 nc_2 inM_2 (by decide) nf_X7_153 rfl dX7_tick_111 ?_
      refine X_callVv (As := [.int ((s3 7 1) / ((10:Int32))), .int (s3 7 3), .int (s3 6 0)]) (rest := []) C aw_ok mcs lk_X7_156 sh_10 nc_5 (by decide) rfl rfl (Nat.le_of_ble_eq_true rfl) dX7_tick_114 hf (fun s h => k_X5_look _ _ _ _ s h) (fun s5 hf => ?_)
      refine X_iinc (v := (1:Int32)) (L' := [(0, .ref 0), (1, .int v1), (2, .int (v2 + (1:Int32))), (3, .int v3)]) C 2 [1, 2, 0, 3] dX7_tick_117 rfl (by decide) (by decide) rfl ?_
      refine X_iinc (v := (1:Int32)) (L' := [(0, .ref 0), (1, .int v1), (2, .int (v2 + (1:Int32))), (3, .int (v3 + (1:Int32)))]) C 3 [1, 2, 3, 0] dX7_tick_120 rfl (by decide) (by decide) rfl ?_
      refine X_goto (tgt := 48) C dX7_tick_123 (by decide) ?_
      exact hK48 _ _ _ _ hf
def b_X7_tick_48 (N : Nat) : Nat → Sg → Int32 → Int32 → Int32 → Option (Int32 × Sg)
  | 0, _, _, _, _ => none
  | j + 1, s, v1, v2, v3 => c_X7_tick_48 N (b_X7_tick_48 N j) s v1 v2 v3
theorem h_X7_tick_48 {X : Ctx} {N : Nat} {o : Int32 × Sg} (C : Cx NM X cX7_tick 4 RX7 (ws_X7_tick) (some .int) rm_X7_tick) (Rr : Rx NM X 0 0 (some (.int o.1)) SH o.2) : ∀ (j : Nat) (s : Sg) (v1 : Int32) (v2 : Int32) (v3 : Int32), b_X7_tick_48 N j s v1 v2 v3 = some o → XW NM X 4 0 0 SH s 48 [(0, .ref 0), (1, .int v1), (2, .int v2), (3, .int v3)] [] := by
  intro j
  induction j with
  | zero => intro s v1 v2 v3 hf; cases (show none = some o from hf)
  | succ j ih => intro s v1 v2 v3 hf; exact w_X7_tick_48 C Rr ih s v1 v2 v3 hf
def c_X7_tick_0 (N : Nat) (s : Sg) (v1 : Int32) : Option (Int32 × Sg) :=
bd (f_X7_within s v1 ((1:Int32)) ((50:Int32))) (fun r2 s1 => if r2 = 0 then
 some ((-2:Int32), s1)
 else
 if (s1 7 9) = 0 then
 if ((s1 7 6) + v1) ≤ ((5000:Int32)) then
 b_X7_tick_48 N N s1 v1 ((0:Int32)) ((0:Int32))
 else
 some ((-4:Int32), s1)
 else
 some ((-3:Int32), s1))
set_option maxHeartbeats 4000000 in
set_option maxRecDepth 100000 in
theorem w_X7_tick_0 {X : Ctx} {N : Nat} {o : Int32 × Sg} (C : Cx NM X cX7_tick 4 RX7 (ws_X7_tick) (some .int) rm_X7_tick) (Rr : Rx NM X 0 0 (some (.int o.1)) SH o.2) (s : Sg) (v1 : Int32) (hf : c_X7_tick_0 N s v1 = some o) : XW NM X 4 0 0 SH s 0 [(0, .ref 0), (1, .int v1)] [] := by
  unfold c_X7_tick_0 at hf
  refine X_iload_n C 1 dX7_tick_0 rfl rfl ?_
  refine X_iconst (v := (1:Int32)) C dX7_tick_1 (by decide) ?_
  refine X_bipush (v := (50:Int32)) C dX7_tick_2 (by decide) ?_
  refine X_callSi (As := [.int v1, .int ((1:Int32)), .int ((50:Int32))]) (rest := []) C aw_ok mcs lk_X7_90 (by decide) rfl rfl (Nat.le_of_ble_eq_true rfl) dX7_tick_4 hf (fun r s h => k_X7_within _ _ _ _ (r, s) h) (fun r2 s1 hf => ?_)
  refine X_if_ne (tgt := 13) C dX7_tick_7 (by decide) hf (fun hf => ?_) (fun hf => ?_)
  · refine X_aload_n C 0 dX7_tick_13 rfl rfl ?_
    refine X_getr C 4 sh_0 nc_7 inM_7 (by decide) (mc wd_60) rfl dX7_tick_14 ?_
    refine X_getiN C 9 sh_7 nc_1 inM_1 (by decide) nf_X7_133 rfl dX7_tick_17 ?_
    refine X_if_eq (tgt := 26) C dX7_tick_20 (by decide) hf (fun hf => ?_) (fun hf => ?_)
    · refine X_aload_n C 0 dX7_tick_26 rfl rfl ?_
      refine X_getr C 4 sh_0 nc_7 inM_7 (by decide) (mc wd_60) rfl dX7_tick_27 ?_
      refine X_getiN C 6 sh_7 nc_1 inM_1 (by decide) nf_X7_137 rfl dX7_tick_30 ?_
      refine X_iload_n C 1 dX7_tick_33 rfl rfl ?_
      refine X_iadd C dX7_tick_34 ?_
      refine X_sipush (v := (5000:Int32)) C dX7_tick_35 (by decide) ?_
      refine X_icmp_le (tgt := 44) C dX7_tick_38 (by decide) hf (fun hf => ?_) (fun hf => ?_)
      · refine X_iconst (v := (0:Int32)) C dX7_tick_44 (by decide) ?_
        refine X_istore_n (L' := [(0, .ref 0), (1, .int v1), (2, .int ((0:Int32)))]) C [1, 2, 0] dX7_tick_45 rfl (by decide) rfl ?_
        refine X_iconst (v := (0:Int32)) C dX7_tick_46 (by decide) ?_
        refine X_istore_n (L' := [(0, .ref 0), (1, .int v1), (2, .int ((0:Int32))), (3, .int ((0:Int32)))]) C [1, 2, 3, 0] dX7_tick_47 rfl (by decide) rfl ?_
        exact h_X7_tick_48 C Rr _ _ _ _ _ hf
      · refine X_bipush (v := (-4:Int32)) C dX7_tick_41 (by decide) ?_
        exact X_iret C dX7_tick_43 hf Rr
    · refine X_bipush (v := (-3:Int32)) C dX7_tick_23 (by decide) ?_
      exact X_iret C dX7_tick_25 hf Rr
  · refine X_bipush (v := (-2:Int32)) C dX7_tick_10 (by decide) ?_
    exact X_iret C dX7_tick_12 hf Rr
def f_X7_tick (N : Nat) (s : Sg) (v1 : Int32) : Option (Int32 × Sg) := c_X7_tick_0 N s v1
theorem k_X7_tick {N : Nat} (s : Sg) (v1 : Int32) (o : Int32 × Sg) (hf : f_X7_tick N s v1 = some o) : Ctr NM yX7_tick (ws_X7_tick) rm_X7_tick SH s [.ref 0, .int v1] (some (.int o.1)) o.2 :=
  Ctr.of (by decide) rfl (Nat.le_of_ble_eq_true rfl) (fun X C Rr => by show XW NM X 4 0 0 SH s 0 [(0, .ref 0), (1, .int v1)] []; exact w_X7_tick_0 C Rr s v1 hf)
abbrev ws_X7_tap : List Cond := Cond.code yX7_tap cX7_tap 1 (some .int) :: AW
abbrev rm_X7_tap : Room := { frames := 3, cells := 0, slots := 0, locals := 66 }
def c_X7_tap_0 (s : Sg) : Option (Int32 × Sg) :=
bd (f_X7_castPig s) (fun r2 s1 => some (r2, s1))
set_option maxHeartbeats 4000000 in
set_option maxRecDepth 100000 in
theorem w_X7_tap_0 {X : Ctx} {o : Int32 × Sg} (C : Cx NM X cX7_tap 1 RX7 (ws_X7_tap) (some .int) rm_X7_tap) (Rr : Rx NM X 0 0 (some (.int o.1)) SH o.2) (s : Sg) (hf : c_X7_tap_0 s = some o) : XW NM X 1 0 0 SH s 0 [(0, .ref 0)] [] := by
  unfold c_X7_tap_0 at hf
  refine X_aload_n C 0 dX7_tap_0 rfl rfl ?_
  refine X_callVi (As := []) (rest := []) C aw_ok mcs lk_X7_159 sh_0 nc_7 (by decide) rfl rfl (Nat.le_of_ble_eq_true rfl) dX7_tap_1 hf (fun r s h => k_X7_castPig _ (r, s) h) (fun r2 s1 hf => ?_)
  exact X_iret C dX7_tap_4 hf Rr
def f_X7_tap (s : Sg) : Option (Int32 × Sg) := c_X7_tap_0 s
theorem k_X7_tap (s : Sg) (o : Int32 × Sg) (hf : f_X7_tap s = some o) : Ctr NM yX7_tap (ws_X7_tap) rm_X7_tap SH s [.ref 0] (some (.int o.1)) o.2 :=
  Ctr.of (by decide) rfl (Nat.le_of_ble_eq_true rfl) (fun X C Rr => by show XW NM X 1 0 0 SH s 0 [(0, .ref 0)] []; exact w_X7_tap_0 C Rr s hf)
abbrev ws_X7_about : List Cond := Cond.code yX7_about cX7_about 2 (some .int) :: AW
abbrev rm_X7_about : Room := { frames := 1, cells := 0, slots := 0, locals := 20 }
def c_X7_about_0 (s : Sg) (v1 : Int32) : Option (Int32 × Sg) :=
if v1 = (0:Int32) then
 some (s 7 1, s)
 else if v1 = (1:Int32) then
 some (s 6 0, s)
 else if v1 = (2:Int32) then
 some (s 7 2, s)
 else if v1 = (3:Int32) then
 some (s 7 4, s)
 else if v1 = (4:Int32) then
 some (s 7 6, s)
 else if v1 = (5:Int32) then
 bd (f_X0_size s) (fun r2 s1 => some (r2, s1))
 else if v1 = (6:Int32) then
 some (s 7 7, s)
 else if v1 = (7:Int32) then
 some (s 7 8, s)
 else if v1 = (8:Int32) then
 some (s 6 3, s)
 else if v1 = (9:Int32) then
 if (s 7 9) = 0 then
 some ((0:Int32), s)
 else
 some ((1:Int32), s)
 else if v1 = (10:Int32) then
 some (s 6 2, s)
 else if v1 = (11:Int32) then
 some (s 7 0, s)
 else some ((-2:Int32), s)
set_option maxHeartbeats 4000000 in
set_option maxRecDepth 100000 in
theorem w_X7_about_0 {X : Ctx} {o : Int32 × Sg} (C : Cx NM X cX7_about 2 RX7 (ws_X7_about) (some .int) rm_X7_about) (Rr : Rx NM X 0 0 (some (.int o.1)) SH o.2) (s : Sg) (v1 : Int32) (hf : c_X7_about_0 s v1 = some o) : XW NM X 2 0 0 SH s 0 [(0, .ref 0), (1, .int v1)] [] := by
  unfold c_X7_about_0 at hf
  refine X_iload_n C 1 dX7_about_0 rfl rfl ?_
  refine X_sw (k0 := (0:Int32)) hf (fun e hf => ?_) (fun n0 hf => ?_)
  · refine X_tin (tgt := 64) C dX7_about_1 (by rw [e]; decide) (by rw [e]; decide) (by rw [e]; rfl) (by decide) ?_
    refine X_aload_n C 0 dX7_about_64 rfl rfl ?_
    refine X_getr C 4 sh_0 nc_7 inM_7 (by decide) (mc wd_60) rfl dX7_about_65 ?_
    refine X_getiN C 1 sh_7 nc_1 inM_1 (by decide) nf_X7_147 rfl dX7_about_68 ?_
    exact X_iret C dX7_about_71 hf Rr
  refine X_sw (k0 := (1:Int32)) hf (fun e hf => ?_) (fun n1 hf => ?_)
  · refine X_tin (tgt := 72) C dX7_about_1 (by rw [e]; decide) (by rw [e]; decide) (by rw [e]; rfl) (by decide) ?_
    refine X_aload_n C 0 dX7_about_72 rfl rfl ?_
    refine X_getr C 3 sh_0 nc_7 inM_7 (by decide) (mc wd_62) rfl dX7_about_73 ?_
    refine X_getiN C 0 sh_6 nc_2 inM_2 (by decide) nf_X7_153 rfl dX7_about_76 ?_
    exact X_iret C dX7_about_79 hf Rr
  refine X_sw (k0 := (2:Int32)) hf (fun e hf => ?_) (fun n2 hf => ?_)
  · refine X_tin (tgt := 80) C dX7_about_1 (by rw [e]; decide) (by rw [e]; decide) (by rw [e]; rfl) (by decide) ?_
    refine X_aload_n C 0 dX7_about_80 rfl rfl ?_
    refine X_getr C 4 sh_0 nc_7 inM_7 (by decide) (mc wd_60) rfl dX7_about_81 ?_
    refine X_getiN C 2 sh_7 nc_1 inM_1 (by decide) nf_X7_162 rfl dX7_about_84 ?_
    exact X_iret C dX7_about_87 hf Rr
  refine X_sw (k0 := (3:Int32)) hf (fun e hf => ?_) (fun n3 hf => ?_)
  · refine X_tin (tgt := 88) C dX7_about_1 (by rw [e]; decide) (by rw [e]; decide) (by rw [e]; rfl) (by decide) ?_
    refine X_aload_n C 0 dX7_about_88 rfl rfl ?_
    refine X_getr C 4 sh_0 nc_7 inM_7 (by decide) (mc wd_60) rfl dX7_about_89 ?_
    refine X_getiN C 4 sh_7 nc_1 inM_1 (by decide) nf_X7_165 rfl dX7_about_92 ?_
    exact X_iret C dX7_about_95 hf Rr
  refine X_sw (k0 := (4:Int32)) hf (fun e hf => ?_) (fun n4 hf => ?_)
  · refine X_tin (tgt := 96) C dX7_about_1 (by rw [e]; decide) (by rw [e]; decide) (by rw [e]; rfl) (by decide) ?_
    refine X_aload_n C 0 dX7_about_96 rfl rfl ?_
    refine X_getr C 4 sh_0 nc_7 inM_7 (by decide) (mc wd_60) rfl dX7_about_97 ?_
    refine X_getiN C 6 sh_7 nc_1 inM_1 (by decide) nf_X7_137 rfl dX7_about_100 ?_
    exact X_iret C dX7_about_103 hf Rr
  refine X_sw (k0 := (5:Int32)) hf (fun e hf => ?_) (fun n5 hf => ?_)
  · refine X_tin (tgt := 104) C dX7_about_1 (by rw [e]; decide) (by rw [e]; decide) (by rw [e]; rfl) (by decide) ?_
    refine X_aload_n C 0 dX7_about_104 rfl rfl ?_
    refine X_getr C 2 sh_0 nc_7 inM_7 (by decide) (mc wd_59) rfl dX7_about_105 ?_
    refine X_callVi (As := []) (rest := []) C aw_ok mcs lk_X7_94 sh_3 nc_0 (by decide) rfl rfl (Nat.le_of_ble_eq_true rfl) dX7_about_108 hf (fun r s h => k_X0_size _ (r, s) h) (fun r2 s1 hf => ?_)
    exact X_iret C dX7_about_111 hf Rr
  refine X_sw (k0 := (6:Int32)) hf (fun e hf => ?_) (fun n6 hf => ?_)
  · refine X_tin (tgt := 112) C dX7_about_1 (by rw [e]; decide) (by rw [e]; decide) (by rw [e]; rfl) (by decide) ?_
    refine X_aload_n C 0 dX7_about_112 rfl rfl ?_
    refine X_getr C 4 sh_0 nc_7 inM_7 (by decide) (mc wd_60) rfl dX7_about_113 ?_
    refine X_getiN C 7 sh_7 nc_1 inM_1 (by decide) nf_X7_168 rfl dX7_about_116 ?_
    exact X_iret C dX7_about_119 hf Rr
  refine X_sw (k0 := (7:Int32)) hf (fun e hf => ?_) (fun n7 hf => ?_)
  · refine X_tin (tgt := 120) C dX7_about_1 (by rw [e]; decide) (by rw [e]; decide) (by rw [e]; rfl) (by decide) ?_
    refine X_aload_n C 0 dX7_about_120 rfl rfl ?_
    refine X_getr C 4 sh_0 nc_7 inM_7 (by decide) (mc wd_60) rfl dX7_about_121 ?_
    refine X_getiN C 8 sh_7 nc_1 inM_1 (by decide) nf_X7_171 rfl dX7_about_124 ?_
    exact X_iret C dX7_about_127 hf Rr
  refine X_sw (k0 := (8:Int32)) hf (fun e hf => ?_) (fun n8 hf => ?_)
  · refine X_tin (tgt := 128) C dX7_about_1 (by rw [e]; decide) (by rw [e]; decide) (by rw [e]; rfl) (by decide) ?_
    refine X_aload_n C 0 dX7_about_128 rfl rfl ?_
    refine X_getr C 3 sh_0 nc_7 inM_7 (by decide) (mc wd_62) rfl dX7_about_129 ?_
    refine X_getiN C 3 sh_6 nc_2 inM_2 (by decide) nf_X7_174 rfl dX7_about_132 ?_
    exact X_iret C dX7_about_135 hf Rr
  refine X_sw (k0 := (9:Int32)) hf (fun e hf => ?_) (fun n9 hf => ?_)
  · refine X_tin (tgt := 136) C dX7_about_1 (by rw [e]; decide) (by rw [e]; decide) (by rw [e]; rfl) (by decide) ?_
    refine X_aload_n C 0 dX7_about_136 rfl rfl ?_
    refine X_getr C 4 sh_0 nc_7 inM_7 (by decide) (mc wd_60) rfl dX7_about_137 ?_
    refine X_getiN C 9 sh_7 nc_1 inM_1 (by decide) nf_X7_133 rfl dX7_about_140 ?_
    refine X_if_eq (tgt := 150) C dX7_about_143 (by decide) hf (fun hf => ?_) (fun hf => ?_)
    · refine X_iconst (v := (0:Int32)) C dX7_about_150 (by decide) ?_
      exact X_iret C dX7_about_151 hf Rr
    · refine X_iconst (v := (1:Int32)) C dX7_about_146 (by decide) ?_
      refine X_goto (tgt := 151) C dX7_about_147 (by decide) ?_
      exact X_iret C dX7_about_151 hf Rr
  refine X_sw (k0 := (10:Int32)) hf (fun e hf => ?_) (fun n10 hf => ?_)
  · refine X_tin (tgt := 152) C dX7_about_1 (by rw [e]; decide) (by rw [e]; decide) (by rw [e]; rfl) (by decide) ?_
    refine X_aload_n C 0 dX7_about_152 rfl rfl ?_
    refine X_getr C 3 sh_0 nc_7 inM_7 (by decide) (mc wd_62) rfl dX7_about_153 ?_
    refine X_getiN C 2 sh_6 nc_2 inM_2 (by decide) nf_X7_177 rfl dX7_about_156 ?_
    exact X_iret C dX7_about_159 hf Rr
  refine X_sw (k0 := (11:Int32)) hf (fun e hf => ?_) (fun n11 hf => ?_)
  · refine X_tin (tgt := 160) C dX7_about_1 (by rw [e]; decide) (by rw [e]; decide) (by rw [e]; rfl) (by decide) ?_
    refine X_aload_n C 0 dX7_about_160 rfl rfl ?_
    refine X_getr C 4 sh_0 nc_7 inM_7 (by decide) (mc wd_60) rfl dX7_about_161 ?_
    refine X_getiN C 0 sh_7 nc_1 inM_1 (by decide) nf_X7_116 rfl dX7_about_164 ?_
    exact X_iret C dX7_about_167 hf Rr
  refine X_tout (tgt := 168) C dX7_about_1 (by have := lv_neT n0 (show (0:Int32).toInt = 0 from by decide); have := lv_neT n1 (show (1:Int32).toInt = 1 from by decide); have := lv_neT n2 (show (2:Int32).toInt = 2 from by decide); have := lv_neT n3 (show (3:Int32).toInt = 3 from by decide); have := lv_neT n4 (show (4:Int32).toInt = 4 from by decide); have := lv_neT n5 (show (5:Int32).toInt = 5 from by decide); have := lv_neT n6 (show (6:Int32).toInt = 6 from by decide); have := lv_neT n7 (show (7:Int32).toInt = 7 from by decide); have := lv_neT n8 (show (8:Int32).toInt = 8 from by decide); have := lv_neT n9 (show (9:Int32).toInt = 9 from by decide); have := lv_neT n10 (show (10:Int32).toInt = 10 from by decide); have := lv_neT n11 (show (11:Int32).toInt = 11 from by decide); omega) (by decide) ?_
  refine X_bipush (v := (-2:Int32)) C dX7_about_168 (by decide) ?_
  exact X_iret C dX7_about_170 hf Rr
def f_X7_about (s : Sg) (v1 : Int32) : Option (Int32 × Sg) := c_X7_about_0 s v1
theorem k_X7_about (s : Sg) (v1 : Int32) (o : Int32 × Sg) (hf : f_X7_about s v1 = some o) : Ctr NM yX7_about (ws_X7_about) rm_X7_about SH s [.ref 0, .int v1] (some (.int o.1)) o.2 :=
  Ctr.of (by decide) rfl (Nat.le_of_ble_eq_true rfl) (fun X C Rr => by show XW NM X 2 0 0 SH s 0 [(0, .ref 0), (1, .int v1)] []; exact w_X7_about_0 C Rr s v1 hf)
abbrev ws_X7_store : List Cond := Cond.code yX7_store cX7_store 2 (some .int) :: AW
abbrev rm_X7_store : Room := { frames := 1, cells := 0, slots := 0, locals := 22 }
def c_X7_store_0 (s : Sg) (v1 : Int32) : Option (Int32 × Sg) :=
bd (f_X7_within s v1 ((0:Int32)) ((5:Int32))) (fun r2 s1 => if r2 = 0 then
 some ((-2:Int32), s1)
 else
 gd (vi v1 6) (some (s1 1 v1.toNatClampNeg, s1)))
set_option maxHeartbeats 4000000 in
set_option maxRecDepth 100000 in
theorem w_X7_store_0 {X : Ctx} {o : Int32 × Sg} (C : Cx NM X cX7_store 2 RX7 (ws_X7_store) (some .int) rm_X7_store) (Rr : Rx NM X 0 0 (some (.int o.1)) SH o.2) (s : Sg) (v1 : Int32) (hf : c_X7_store_0 s v1 = some o) : XW NM X 2 0 0 SH s 0 [(0, .ref 0), (1, .int v1)] [] := by
  unfold c_X7_store_0 at hf
  refine X_iload_n C 1 dX7_store_0 rfl rfl ?_
  refine X_iconst (v := (0:Int32)) C dX7_store_1 (by decide) ?_
  refine X_iconst (v := (5:Int32)) C dX7_store_2 (by decide) ?_
  refine X_callSi (As := [.int v1, .int ((0:Int32)), .int ((5:Int32))]) (rest := []) C aw_ok mcs lk_X7_90 (by decide) rfl rfl (Nat.le_of_ble_eq_true rfl) dX7_store_3 hf (fun r s h => k_X7_within _ _ _ _ (r, s) h) (fun r2 s1 hf => ?_)
  refine X_if_eq (tgt := 18) C dX7_store_6 (by decide) hf (fun hf => ?_) (fun hf => ?_)
  · refine X_bipush (v := (-2:Int32)) C dX7_store_18 (by decide) ?_
    exact X_iret C dX7_store_20 hf Rr
  · refine X_aload_n C 0 dX7_store_9 rfl rfl ?_
    refine X_getr C 0 sh_0 nc_7 inM_7 (by decide) (mc wd_57) rfl dX7_store_10 ?_
    refine X_iload_n C 1 dX7_store_13 rfl rfl ?_
    refine X_iald C sh_1 dX7_store_14 hf (fun hf => ?_)
    refine X_goto (tgt := 20) C dX7_store_15 (by decide) ?_
    exact X_iret C dX7_store_20 hf Rr
def f_X7_store (s : Sg) (v1 : Int32) : Option (Int32 × Sg) := c_X7_store_0 s v1
theorem k_X7_store (s : Sg) (v1 : Int32) (o : Int32 × Sg) (hf : f_X7_store s v1 = some o) : Ctr NM yX7_store (ws_X7_store) rm_X7_store SH s [.ref 0, .int v1] (some (.int o.1)) o.2 :=
  Ctr.of (by decide) rfl (Nat.le_of_ble_eq_true rfl) (fun X C Rr => by show XW NM X 2 0 0 SH s 0 [(0, .ref 0), (1, .int v1)] []; exact w_X7_store_0 C Rr s v1 hf)
abbrev ws_X7_pig : List Cond := Cond.code yX7_pig cX7_pig 3 (some .int) :: AW
abbrev rm_X7_pig : Room := { frames := 2, cells := 0, slots := 0, locals := 44 }
def c_X7_pig_0 (s : Sg) (v1 : Int32) (v2 : Int32) : Option (Int32 × Sg) :=
if v1 < 0 then
 some ((-2:Int32), s)
 else
 bd (f_X7_within s v2 ((0:Int32)) ((5:Int32))) (fun r2 s1 => if r2 = 0 then
 some ((-2:Int32), s1)
 else
 if v1 < (s1 8 3) then
 bd (f_X6_get 8 360 s1 v1 v2) (fun r4 s3 => some (r4, s3))
 else
 some ((-1:Int32), s1))
set_option maxHeartbeats 4000000 in
set_option maxRecDepth 100000 in
theorem w_X7_pig_0 {X : Ctx} {o : Int32 × Sg} (C : Cx NM X cX7_pig 3 RX7 (ws_X7_pig) (some .int) rm_X7_pig) (Rr : Rx NM X 0 0 (some (.int o.1)) SH o.2) (s : Sg) (v1 : Int32) (v2 : Int32) (hf : c_X7_pig_0 s v1 v2 = some o) : XW NM X 3 0 0 SH s 0 [(0, .ref 0), (1, .int v1), (2, .int v2)] [] := by
  unfold c_X7_pig_0 at hf
  refine X_iload_n C 1 dX7_pig_0 rfl rfl ?_
  refine X_if_lt (tgt := 13) C dX7_pig_1 (by decide) hf (fun hf => ?_) (fun hf => ?_)
  · refine X_bipush (v := (-2:Int32)) C dX7_pig_13 (by decide) ?_
    exact X_iret C dX7_pig_15 hf Rr
  · refine X_iload_n C 2 dX7_pig_4 rfl rfl ?_
    refine X_iconst (v := (0:Int32)) C dX7_pig_5 (by decide) ?_
    refine X_iconst (v := (5:Int32)) C dX7_pig_6 (by decide) ?_
    refine X_callSi (As := [.int v2, .int ((0:Int32)), .int ((5:Int32))]) (rest := []) C aw_ok mcs lk_X7_90 (by decide) rfl rfl (Nat.le_of_ble_eq_true rfl) dX7_pig_7 hf (fun r s h => k_X7_within _ _ _ _ (r, s) h) (fun r2 s1 hf => ?_)
    refine X_if_ne (tgt := 16) C dX7_pig_10 (by decide) hf (fun hf => ?_) (fun hf => ?_)
    · refine X_iload_n C 1 dX7_pig_16 rfl rfl ?_
      refine X_aload_n C 0 dX7_pig_17 rfl rfl ?_
      refine X_getr C 5 sh_0 nc_7 inM_7 (by decide) (mc wd_65) rfl dX7_pig_18 ?_
      refine X_getiN C 3 sh_8 nc_6 inM_6 (by decide) nf_X7_109 rfl dX7_pig_21 ?_
      refine X_icmp_lt (tgt := 29) C dX7_pig_24 (by decide) hf (fun hf => ?_) (fun hf => ?_)
      · refine X_aload_n C 0 dX7_pig_29 rfl rfl ?_
        refine X_getr C 5 sh_0 nc_7 inM_7 (by decide) (mc wd_65) rfl dX7_pig_30 ?_
        refine X_iload_n C 1 dX7_pig_33 rfl rfl ?_
        refine X_iload_n C 2 dX7_pig_34 rfl rfl ?_
        refine X_callVi (As := [.int v1, .int v2]) (rest := []) C aw_ok mcs lk_X7_112 sh_8 nc_6 (by decide) rfl rfl (Nat.le_of_ble_eq_true rfl) dX7_pig_35 hf (fun r s h => k_X6_get sh_8 sh_9 _ _ _ (r, s) h) (fun r4 s3 hf => ?_)
        exact X_iret C dX7_pig_38 hf Rr
      · refine X_iconst (v := (-1:Int32)) C dX7_pig_27 (by decide) ?_
        exact X_iret C dX7_pig_28 hf Rr
    · refine X_bipush (v := (-2:Int32)) C dX7_pig_13 (by decide) ?_
      exact X_iret C dX7_pig_15 hf Rr
def f_X7_pig (s : Sg) (v1 : Int32) (v2 : Int32) : Option (Int32 × Sg) := c_X7_pig_0 s v1 v2
theorem k_X7_pig (s : Sg) (v1 : Int32) (v2 : Int32) (o : Int32 × Sg) (hf : f_X7_pig s v1 v2 = some o) : Ctr NM yX7_pig (ws_X7_pig) rm_X7_pig SH s [.ref 0, .int v1, .int v2] (some (.int o.1)) o.2 :=
  Ctr.of (by decide) rfl (Nat.le_of_ble_eq_true rfl) (fun X C Rr => by show XW NM X 3 0 0 SH s 0 [(0, .ref 0), (1, .int v1), (2, .int v2)] []; exact w_X7_pig_0 C Rr s v1 v2 hf)
abbrev ws_X7_sign : List Cond := Cond.code yX7_sign cX7_sign 2 (some .int) :: AW
abbrev rm_X7_sign : Room := { frames := 1, cells := 0, slots := 0, locals := 22 }
def c_X7_sign_0 (s : Sg) (v1 : Int32) : Option (Int32 × Sg) :=
bd (f_X7_within s v1 ((0:Int32)) ((2:Int32))) (fun r2 s1 => if r2 = 0 then
 some ((-2:Int32), s1)
 else
 gd (vi v1 3) (some (s1 11 v1.toNatClampNeg, s1)))
set_option maxHeartbeats 4000000 in
set_option maxRecDepth 100000 in
theorem w_X7_sign_0 {X : Ctx} {o : Int32 × Sg} (C : Cx NM X cX7_sign 2 RX7 (ws_X7_sign) (some .int) rm_X7_sign) (Rr : Rx NM X 0 0 (some (.int o.1)) SH o.2) (s : Sg) (v1 : Int32) (hf : c_X7_sign_0 s v1 = some o) : XW NM X 2 0 0 SH s 0 [(0, .ref 0), (1, .int v1)] [] := by
  unfold c_X7_sign_0 at hf
  refine X_iload_n C 1 dX7_sign_0 rfl rfl ?_
  refine X_iconst (v := (0:Int32)) C dX7_sign_1 (by decide) ?_
  refine X_iconst (v := (2:Int32)) C dX7_sign_2 (by decide) ?_
  refine X_callSi (As := [.int v1, .int ((0:Int32)), .int ((2:Int32))]) (rest := []) C aw_ok mcs lk_X7_90 (by decide) rfl rfl (Nat.le_of_ble_eq_true rfl) dX7_sign_3 hf (fun r s h => k_X7_within _ _ _ _ (r, s) h) (fun r2 s1 hf => ?_)
  refine X_if_eq (tgt := 21) C dX7_sign_6 (by decide) hf (fun hf => ?_) (fun hf => ?_)
  · refine X_bipush (v := (-2:Int32)) C dX7_sign_21 (by decide) ?_
    exact X_iret C dX7_sign_23 hf Rr
  · refine X_aload_n C 0 dX7_sign_9 rfl rfl ?_
    refine X_getr C 6 sh_0 nc_7 inM_7 (by decide) (mc wd_64) rfl dX7_sign_10 ?_
    refine X_getrN C 0 sh_10 nc_5 inM_5 (by decide) nf_X7_180 rfl dX7_sign_13 ?_
    refine X_iload_n C 1 dX7_sign_16 rfl rfl ?_
    refine X_iald C sh_11 dX7_sign_17 hf (fun hf => ?_)
    refine X_goto (tgt := 23) C dX7_sign_18 (by decide) ?_
    exact X_iret C dX7_sign_23 hf Rr
def f_X7_sign (s : Sg) (v1 : Int32) : Option (Int32 × Sg) := c_X7_sign_0 s v1
theorem k_X7_sign (s : Sg) (v1 : Int32) (o : Int32 × Sg) (hf : f_X7_sign s v1 = some o) : Ctr NM yX7_sign (ws_X7_sign) rm_X7_sign SH s [.ref 0, .int v1] (some (.int o.1)) o.2 :=
  Ctr.of (by decide) rfl (Nat.le_of_ble_eq_true rfl) (fun X C Rr => by show XW NM X 2 0 0 SH s 0 [(0, .ref 0), (1, .int v1)] []; exact w_X7_sign_0 C Rr s v1 hf)
abbrev ws_X7_lose : List Cond := Cond.code yX7_lose cX7_lose 3 (some .int) :: AW
abbrev rm_X7_lose : Room := { frames := 1, cells := 0, slots := 0, locals := 22 }
def c_X7_lose_0 (s : Sg) (v1 : Int32) (v2 : Int32) : Option (Int32 × Sg) :=
bd (f_X7_within s v1 ((0:Int32)) ((2:Int32))) (fun r2 s1 => if r2 = 0 then
 some ((-2:Int32), s1)
 else
 bd (f_X7_within s1 v2 ((0:Int32)) ((50:Int32))) (fun r4 s3 => if r4 = 0 then
 some ((-2:Int32), s3)
 else
 gd (vi v1 3) (lt_ (sgu s3 12 v1.toNatClampNeg v2) (fun s5 => some ((1:Int32), s5)))))
set_option maxHeartbeats 4000000 in
set_option maxRecDepth 100000 in
theorem w_X7_lose_0 {X : Ctx} {o : Int32 × Sg} (C : Cx NM X cX7_lose 3 RX7 (ws_X7_lose) (some .int) rm_X7_lose) (Rr : Rx NM X 0 0 (some (.int o.1)) SH o.2) (s : Sg) (v1 : Int32) (v2 : Int32) (hf : c_X7_lose_0 s v1 v2 = some o) : XW NM X 3 0 0 SH s 0 [(0, .ref 0), (1, .int v1), (2, .int v2)] [] := by
  unfold c_X7_lose_0 at hf
  refine X_iload_n C 1 dX7_lose_0 rfl rfl ?_
  refine X_iconst (v := (0:Int32)) C dX7_lose_1 (by decide) ?_
  refine X_iconst (v := (2:Int32)) C dX7_lose_2 (by decide) ?_
  refine X_callSi (As := [.int v1, .int ((0:Int32)), .int ((2:Int32))]) (rest := []) C aw_ok mcs lk_X7_90 (by decide) rfl rfl (Nat.le_of_ble_eq_true rfl) dX7_lose_3 hf (fun r s h => k_X7_within _ _ _ _ (r, s) h) (fun r2 s1 hf => ?_)
  refine X_if_eq (tgt := 19) C dX7_lose_6 (by decide) hf (fun hf => ?_) (fun hf => ?_)
  · refine X_bipush (v := (-2:Int32)) C dX7_lose_19 (by decide) ?_
    exact X_iret C dX7_lose_21 hf Rr
  · refine X_iload_n C 2 dX7_lose_9 rfl rfl ?_
    refine X_iconst (v := (0:Int32)) C dX7_lose_10 (by decide) ?_
    refine X_bipush (v := (50:Int32)) C dX7_lose_11 (by decide) ?_
    refine X_callSi (As := [.int v2, .int ((0:Int32)), .int ((50:Int32))]) (rest := []) C aw_ok mcs lk_X7_90 (by decide) rfl rfl (Nat.le_of_ble_eq_true rfl) dX7_lose_13 hf (fun r s h => k_X7_within _ _ _ _ (r, s) h) (fun r4 s3 hf => ?_)
    refine X_if_ne (tgt := 22) C dX7_lose_16 (by decide) hf (fun hf => ?_) (fun hf => ?_)
    · refine X_aload_n C 0 dX7_lose_22 rfl rfl ?_
      refine X_getr C 6 sh_0 nc_7 inM_7 (by decide) (mc wd_64) rfl dX7_lose_23 ?_
      refine X_getrN C 1 sh_10 nc_5 inM_5 (by decide) nf_X7_183 rfl dX7_lose_26 ?_
      refine X_iload_n C 1 dX7_lose_29 rfl rfl ?_
      refine X_iload_n C 2 dX7_lose_30 rfl rfl ?_
      refine X_iast C sh_12 dX7_lose_31 hf (fun s5 hf => ?_)
      refine X_iconst (v := (1:Int32)) C dX7_lose_32 (by decide) ?_
      exact X_iret C dX7_lose_33 hf Rr
    · refine X_bipush (v := (-2:Int32)) C dX7_lose_19 (by decide) ?_
      exact X_iret C dX7_lose_21 hf Rr
def f_X7_lose (s : Sg) (v1 : Int32) (v2 : Int32) : Option (Int32 × Sg) := c_X7_lose_0 s v1 v2
theorem k_X7_lose (s : Sg) (v1 : Int32) (v2 : Int32) (o : Int32 × Sg) (hf : f_X7_lose s v1 v2 = some o) : Ctr NM yX7_lose (ws_X7_lose) rm_X7_lose SH s [.ref 0, .int v1, .int v2] (some (.int o.1)) o.2 :=
  Ctr.of (by decide) rfl (Nat.le_of_ble_eq_true rfl) (fun X C Rr => by show XW NM X 3 0 0 SH s 0 [(0, .ref 0), (1, .int v1), (2, .int v2)] []; exact w_X7_lose_0 C Rr s v1 v2 hf)

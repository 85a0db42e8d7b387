abbrev ws_X2_pour : List Cond := Cond.code yX2_pour cX2_pour 4 none :: AW
abbrev rm_X2_pour : Room := { frames := 1, cells := 0, slots := 0, locals := 21 }
def c_X2_pour_41 (s : Sg) (v1 : Int32) (u1 : Int32) : Option (Sg) :=
lt_ (sgu s 6 6 u1) (fun s1 => if (s1 6 4) = ((-1:Int32)) then
 lt_ (sgu s1 6 4 v1) (fun s3 => lt_ (sgu s3 6 5 v1) (fun s4 => some s4))
 else
 lt_ (sgu s1 6 5 v1) (fun s2 => some s2))
set_option maxHeartbeats 4000000 in
set_option maxRecDepth 100000 in
theorem w_X2_pour_41 {X : Ctx} {o : Sg} (C : Cx NM X cX2_pour 4 RX2 (ws_X2_pour) none rm_X2_pour) (Rr : Rx NM X 0 0 none SH o) (s : Sg) (v1 : Int32) (u1 : Int32) (hf : c_X2_pour_41 s v1 u1 = some o) : XW NM X 4 0 0 SH s 41 [(0, .ref 6), (1, .int v1)] [.int u1, .ref 6] := by
  unfold c_X2_pour_41 at hf
  refine X_puti C 6 sh_6 nc_2 inM_2 (by decide) tyX2 tyX2_ok nmX2 (mc wd_14) rfl (by decide +kernel) rfl dX2_pour_41 hf (fun s1 hf => ?_)
  refine X_aload_n C 0 dX2_pour_44 rfl rfl ?_
  refine X_geti C 4 sh_6 nc_2 inM_2 (by decide) (mc wd_13) rfl dX2_pour_45 ?_
  refine X_iconst (v := (-1:Int32)) C dX2_pour_48 (by decide) ?_
  refine X_icmp_ne (tgt := 57) C dX2_pour_49 (by decide) hf (fun hf => ?_) (fun hf => ?_)
  · refine X_aload_n C 0 dX2_pour_57 rfl rfl ?_
    refine X_iload_n C 1 dX2_pour_58 rfl rfl ?_
    refine X_puti C 5 sh_6 nc_2 inM_2 (by decide) tyX2 tyX2_ok nmX2 (mc wd_16) rfl (by decide +kernel) rfl dX2_pour_59 hf (fun s2 hf => ?_)
    exact X_vret C dX2_pour_62 hf Rr
  · refine X_aload_n C 0 dX2_pour_52 rfl rfl ?_
    refine X_iload_n C 1 dX2_pour_53 rfl rfl ?_
    refine X_puti C 4 sh_6 nc_2 inM_2 (by decide) tyX2 tyX2_ok nmX2 (mc wd_13) rfl (by decide +kernel) rfl dX2_pour_54 hf (fun s3 hf => ?_)
    refine X_aload_n C 0 dX2_pour_57 rfl rfl ?_
    refine X_iload_n C 1 dX2_pour_58 rfl rfl ?_
    refine X_puti C 5 sh_6 nc_2 inM_2 (by decide) tyX2 tyX2_ok nmX2 (mc wd_16) rfl (by decide +kernel) rfl dX2_pour_59 hf (fun s4 hf => ?_)
    exact X_vret C dX2_pour_62 hf Rr
def c_X2_pour_0 (s : Sg) (v1 : Int32) (v2 : Int32) (v3 : Int32) : Option (Sg) :=
lt_ (sgu s 6 0 ((s 6 0) + v3)) (fun s1 => lt_ (sgu s1 6 2 ((s1 6 2) + v3)) (fun s2 => if (s2 6 4) = ((-1:Int32)) then
 c_X2_pour_41 s2 v1 v2
 else
 c_X2_pour_41 s2 v1 ((if v2 < (s2 6 6) then v2 else (s2 6 6)))))
set_option maxHeartbeats 4000000 in
set_option maxRecDepth 100000 in
theorem w_X2_pour_0 {X : Ctx} {o : Sg} (C : Cx NM X cX2_pour 4 RX2 (ws_X2_pour) none rm_X2_pour) (Rr : Rx NM X 0 0 none SH o) (s : Sg) (v1 : Int32) (v2 : Int32) (v3 : Int32) (hf : c_X2_pour_0 s v1 v2 v3 = some o) : XW NM X 4 0 0 SH s 0 [(0, .ref 6), (1, .int v1), (2, .int v2), (3, .int v3)] [] := by
  unfold c_X2_pour_0 at hf
  refine X_aload_n C 0 dX2_pour_0 rfl rfl ?_
  refine X_dup C dX2_pour_1 rfl ?_
  refine X_geti C 0 sh_6 nc_2 inM_2 (by decide) (mc wd_11) rfl dX2_pour_2 ?_
  refine X_iload_n C 3 dX2_pour_5 rfl rfl ?_
  refine X_iadd C dX2_pour_6 ?_
  refine X_puti C 0 sh_6 nc_2 inM_2 (by decide) tyX2 tyX2_ok nmX2 (mc wd_11) rfl (by decide +kernel) rfl dX2_pour_7 hf (fun s1 hf => ?_)
  refine X_aload_n C 0 dX2_pour_10 rfl rfl ?_
  refine X_dup C dX2_pour_11 rfl ?_
  refine X_geti C 2 sh_6 nc_2 inM_2 (by decide) (mc wd_12) rfl dX2_pour_12 ?_
  refine X_iload_n C 3 dX2_pour_15 rfl rfl ?_
  refine X_iadd C dX2_pour_16 ?_
  refine X_puti C 2 sh_6 nc_2 inM_2 (by decide) tyX2 tyX2_ok nmX2 (mc wd_12) rfl (by decide +kernel) rfl dX2_pour_17 hf (fun s2 hf => ?_)
  refine X_aload_n C 0 dX2_pour_20 rfl rfl ?_
  refine X_aload_n C 0 dX2_pour_21 rfl rfl ?_
  refine X_geti C 4 sh_6 nc_2 inM_2 (by decide) (mc wd_13) rfl dX2_pour_22 ?_
  refine X_iconst (v := (-1:Int32)) C dX2_pour_25 (by decide) ?_
  refine X_icmp_ne (tgt := 33) C dX2_pour_26 (by decide) hf (fun hf => ?_) (fun hf => ?_)
  · refine X_aload_n C 0 dX2_pour_33 rfl rfl ?_
    refine X_geti C 6 sh_6 nc_2 inM_2 (by decide) (mc wd_14) rfl dX2_pour_34 ?_
    refine X_iload_n C 2 dX2_pour_37 rfl rfl ?_
    refine X_mmin C (mc wd_15) (mc wd_8) (mc wd_9) (mc wd_10) ⟨Nat.le_of_ble_eq_true rfl, Nat.le_of_ble_eq_true rfl, Nat.zero_le _, Nat.zero_le _⟩ dX2_pour_38 ?_
    refine X_loc (L' := [(0, .ref 6), (1, .int v1)]) [0, 1] rfl ?_
    exact w_X2_pour_41 C Rr _ _ _ hf
  · refine X_iload_n C 2 dX2_pour_29 rfl rfl ?_
    refine X_goto (tgt := 41) C dX2_pour_30 (by decide) ?_
    refine X_loc (L' := [(0, .ref 6), (1, .int v1)]) [0, 1] rfl ?_
    exact w_X2_pour_41 C Rr _ _ _ hf
def f_X2_pour (s : Sg) (v1 : Int32) (v2 : Int32) (v3 : Int32) : Option (Sg) := c_X2_pour_0 s v1 v2 v3
theorem k_X2_pour (s : Sg) (v1 : Int32) (v2 : Int32) (v3 : Int32) (o : Sg) (hf : f_X2_pour s v1 v2 v3 = some o) : Ctr NM yX2_pour (ws_X2_pour) rm_X2_pour SH s [.ref 6, .int v1, .int v2, .int v3] none o :=
  Ctr.of (by decide) rfl (Nat.le_of_ble_eq_true rfl) (fun X C Rr => by show XW NM X 4 0 0 SH s 0 [(0, .ref 6), (1, .int v1), (2, .int v2), (3, .int v3)] []; exact w_X2_pour_0 C Rr s v1 v2 v3 hf)
abbrev ws_X2_spill : List Cond := Cond.code yX2_spill cX2_spill 2 (some .int) :: AW
abbrev rm_X2_spill : Room := { frames := 1, cells := 0, slots := 0, locals := 21 }
def c_X2_spill_0 (s : Sg) : Option (Int32 × Sg) :=
lt_ ((if ((0:Int32)) < ((s 6 0) - (s 6 1)) then ((s 6 0) - (s 6 1)) else ((0:Int32)))) (fun x1 => lt_ (sgu s 6 0 ((s 6 0) - x1)) (fun s2 => lt_ (sgu s2 6 3 ((s2 6 3) + x1)) (fun s3 => some (x1, s3))))
set_option maxHeartbeats 4000000 in
set_option maxRecDepth 100000 in
theorem w_X2_spill_0 {X : Ctx} {o : Int32 × Sg} (C : Cx NM X cX2_spill 2 RX2 (ws_X2_spill) (some .int) rm_X2_spill) (Rr : Rx NM X 0 0 (some (.int o.1)) SH o.2) (s : Sg) (hf : c_X2_spill_0 s = some o) : XW NM X 2 0 0 SH s 0 [(0, .ref 6)] [] := by
  unfold c_X2_spill_0 at hf
  refine X_iconst (v := (0:Int32)) C dX2_spill_0 (by decide) ?_
  refine X_aload_n C 0 dX2_spill_1 rfl rfl ?_
  refine X_geti C 0 sh_6 nc_2 inM_2 (by decide) (mc wd_11) rfl dX2_spill_2 ?_
  refine X_aload_n C 0 dX2_spill_5 rfl rfl ?_
  refine X_geti C 1 sh_6 nc_2 inM_2 (by decide) (mc wd_17) rfl dX2_spill_6 ?_
  refine X_isub C dX2_spill_9 ?_
  refine X_mmax C (mc wd_18) (mc wd_19) (mc wd_9) (mc wd_20) ⟨Nat.le_of_ble_eq_true rfl, Nat.le_of_ble_eq_true rfl, Nat.zero_le _, Nat.zero_le _⟩ dX2_spill_10 ?_
  refine X_nm hf (fun x1 hf => ?_)
  refine X_istore_n (L' := [(0, .ref 6), (1, .int x1)]) C [1, 0] dX2_spill_13 rfl (by decide) rfl ?_
  refine X_aload_n C 0 dX2_spill_14 rfl rfl ?_
  refine X_dup C dX2_spill_15 rfl ?_
  refine X_geti C 0 sh_6 nc_2 inM_2 (by decide) (mc wd_11) rfl dX2_spill_16 ?_
  refine X_iload_n C 1 dX2_spill_19 rfl rfl ?_
  refine X_isub C dX2_spill_20 ?_
  refine X_puti C 0 sh_6 nc_2 inM_2 (by decide) tyX2 tyX2_ok nmX2 (mc wd_11) rfl (by decide +kernel) rfl dX2_spill_21 hf (fun s2 hf => ?_)
  refine X_aload_n C 0 dX2_spill_24 rfl rfl ?_
  refine X_dup C dX2_spill_25 rfl ?_
  refine X_geti C 3 sh_6 nc_2 inM_2 (by decide) (mc wd_21) rfl dX2_spill_26 ?_
  refine X_iload_n C 1 dX2_spill_29 rfl rfl ?_
  refine X_iadd C dX2_spill_30 ?_
  refine X_puti C 3 sh_6 nc_2 inM_2 (by decide) tyX2 tyX2_ok nmX2 (mc wd_21) rfl (by decide +kernel) rfl dX2_spill_31 hf (fun s3 hf => ?_)
  refine X_iload_n C 1 dX2_spill_34 rfl rfl ?_
  exact X_iret C dX2_spill_35 hf Rr
def f_X2_spill (s : Sg) : Option (Int32 × Sg) := c_X2_spill_0 s
theorem k_X2_spill (s : Sg) (o : Int32 × Sg) (hf : f_X2_spill s = some o) : Ctr NM yX2_spill (ws_X2_spill) rm_X2_spill SH s [.ref 6] (some (.int o.1)) o.2 :=
  Ctr.of (by decide) rfl (Nat.le_of_ble_eq_true rfl) (fun X C Rr => by show XW NM X 2 0 0 SH s 0 [(0, .ref 6)] []; exact w_X2_spill_0 C Rr s hf)
abbrev ws_X2_empty : List Cond := Cond.code yX2_empty cX2_empty 1 none :: AW
abbrev rm_X2_empty : Room := { frames := 0, cells := 0, slots := 0, locals := 0 }
def c_X2_empty_0 (s : Sg) : Option (Sg) :=
lt_ (sgu s 6 0 ((0:Int32))) (fun s1 => lt_ (sgu s1 6 4 ((-1:Int32))) (fun s2 => lt_ (sgu s2 6 5 ((-1:Int32))) (fun s3 => lt_ (sgu s3 6 6 ((-1:Int32))) (fun s4 => some s4))))
set_option maxHeartbeats 4000000 in
set_option maxRecDepth 100000 in
theorem w_X2_empty_0 {X : Ctx} {o : Sg} (C : Cx NM X cX2_empty 1 RX2 (ws_X2_empty) none rm_X2_empty) (Rr : Rx NM X 0 0 none SH o) (s : Sg) (hf : c_X2_empty_0 s = some o) : XW NM X 1 0 0 SH s 0 [(0, .ref 6)] [] := by
  unfold c_X2_empty_0 at hf
  refine X_aload_n C 0 dX2_empty_0 rfl rfl ?_
  refine X_iconst (v := (0:Int32)) C dX2_empty_1 (by decide) ?_
  refine X_puti C 0 sh_6 nc_2 inM_2 (by decide) tyX2 tyX2_ok nmX2 (mc wd_11) rfl (by decide +kernel) rfl dX2_empty_2 hf (fun s1 hf => ?_)
  refine X_aload_n C 0 dX2_empty_5 rfl rfl ?_
  refine X_iconst (v := (-1:Int32)) C dX2_empty_6 (by decide) ?_
  refine X_puti C 4 sh_6 nc_2 inM_2 (by decide) tyX2 tyX2_ok nmX2 (mc wd_13) rfl (by decide +kernel) rfl dX2_empty_7 hf (fun s2 hf => ?_)
  refine X_aload_n C 0 dX2_empty_10 rfl rfl ?_
  refine X_iconst (v := (-1:Int32)) C dX2_empty_11 (by decide) ?_
  refine X_puti C 5 sh_6 nc_2 inM_2 (by decide) tyX2 tyX2_ok nmX2 (mc wd_16) rfl (by decide +kernel) rfl dX2_empty_12 hf (fun s3 hf => ?_)
  refine X_aload_n C 0 dX2_empty_15 rfl rfl ?_
  refine X_iconst (v := (-1:Int32)) C dX2_empty_16 (by decide) ?_
  refine X_puti C 6 sh_6 nc_2 inM_2 (by decide) tyX2 tyX2_ok nmX2 (mc wd_14) rfl (by decide +kernel) rfl dX2_empty_17 hf (fun s4 hf => ?_)
  exact X_vret C dX2_empty_20 hf Rr
def f_X2_empty (s : Sg) : Option (Sg) := c_X2_empty_0 s
theorem k_X2_empty (s : Sg) (o : Sg) (hf : f_X2_empty s = some o) : Ctr NM yX2_empty (ws_X2_empty) rm_X2_empty SH s [.ref 6] none o :=
  Ctr.of (by decide) rfl (Nat.le_of_ble_eq_true rfl) (fun X C Rr => by show XW NM X 1 0 0 SH s 0 [(0, .ref 6)] []; exact w_X2_empty_0 C Rr s hf)

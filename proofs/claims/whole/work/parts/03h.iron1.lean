abbrev ws_X7_rule : List Cond := Cond.code yX7_rule cX7_rule 6 (some .int) :: AW
abbrev rm_X7_rule : Room := { frames := 2, cells := 0, slots := 0, locals := 45 }
def c_X7_rule_85 (s : Sg) (v3 : Int32) (v4 : Int32) (v5 : Int32) (u1 : Int32) (u2 : Int32) (u3 : Int32) : Option (Int32 × Sg) :=
bdv (f_X6_set 13 32 s u1 u2 u3) (fun s1 => bdv (f_X6_set 13 32 s1 v5 ((2:Int32)) v3) (fun s3 => bdv (f_X6_set 13 32 s3 v5 ((3:Int32)) v4) (fun s5 => some (v5, s5))))
set_option maxHeartbeats 4000000 in
set_option maxRecDepth 100000 in
theorem w_X7_rule_85 {X : Ctx} {o : Int32 × Sg} (C : Cx NM X cX7_rule 6 RX7 (ws_X7_rule) (some .int) rm_X7_rule) (Rr : Rx NM X 0 0 (some (.int o.1)) SH o.2) (s : Sg) (v3 : Int32) (v4 : Int32) (v5 : Int32) (u1 : Int32) (u2 : Int32) (u3 : Int32) (hf : c_X7_rule_85 s v3 v4 v5 u1 u2 u3 = some o) : XW NM X 6 0 0 SH s 85 [(0, .ref 0), (3, .int v3), (4, .int v4), (5, .int v5)] [.int u3, .int u2, .int u1, .ref 13] := by
  unfold c_X7_rule_85 at hf
  refine X_callVv (As := [.int u1, .int u2, .int u3]) (rest := []) C aw_ok mcs lk_X7_86 sh_13 nc_6 (by decide) rfl rfl (Nat.le_of_ble_eq_true rfl) dX7_rule_85 hf (fun s h => k_X6_set sh_13 sh_14 _ _ _ _ s h) (fun s1 hf => ?_)
  refine X_aload_n C 0 dX7_rule_88 rfl rfl ?_
  refine X_getr C 7 sh_0 nc_7 inM_7 (by decide) (mc wd_63) rfl dX7_rule_89 ?_
  refine X_iload C 3 dX7_rule_92 rfl ?_
  refine X_iconst (v := (2:Int32)) C dX7_rule_94 (by decide) ?_
  refine X_iload_n C 1 dX7_rule_95 rfl rfl ?_
  refine X_callVv (As := [.int v5, .int ((2:Int32)), .int v3]) (rest := []) C aw_ok mcs lk_X7_86 sh_13 nc_6 (by decide) rfl rfl (Nat.le_of_ble_eq_true rfl) dX7_rule_96 hf (fun s h => k_X6_set sh_13 sh_14 _ _ _ _ s h) (fun s3 hf => ?_)
  refine X_aload_n C 0 dX7_rule_99 rfl rfl ?_
  refine X_getr C 7 sh_0 nc_7 inM_7 (by decide) (mc wd_63) rfl dX7_rule_100 ?_
  refine X_iload C 3 dX7_rule_103 rfl ?_
  refine X_iconst (v := (3:Int32)) C dX7_rule_105 (by decide) ?_
  refine X_iload C 2 dX7_rule_106 rfl ?_
  refine X_callVv (As := [.int v5, .int ((3:Int32)), .int v4]) (rest := []) C aw_ok mcs lk_X7_86 sh_13 nc_6 (by decide) rfl rfl (Nat.le_of_ble_eq_true rfl) dX7_rule_108 hf (fun s h => k_X6_set sh_13 sh_14 _ _ _ _ s h) (fun s5 hf => ?_)
  refine X_iload C 3 dX7_rule_111 rfl ?_
  exact X_iret C dX7_rule_113 hf Rr
def c_X7_rule_0 (s : Sg) (v1 : Int32) (v2 : Int32) (v3 : Int32) (v4 : Int32) : Option (Int32 × Sg) :=
bd (f_X7_within s v1 ((0:Int32)) ((2:Int32))) (fun r2 s1 => if r2 = 0 then
 some ((-2:Int32), s1)
 else
 bd (f_X7_within s1 v3 ((0:Int32)) ((1000:Int32))) (fun r4 s3 => if r4 = 0 then
 some ((-2:Int32), s3)
 else
 bd (f_X7_within s3 v4 ((0:Int32)) ((2:Int32))) (fun r6 s5 => if r6 = 0 then
 some ((-2:Int32), s5)
 else
 bd (f_X6_isFull 13 32 s5) (fun r8 s7 => if r8 = 0 then
 bd (f_X6_add 13 32 s7) (fun r10 s9 => bdv (f_X6_set 13 32 s9 r10 ((0:Int32)) v1) (fun s11 => if v2 = 0 then
 c_X7_rule_85 s11 v3 v4 r10 r10 ((1:Int32)) ((0:Int32))
 else
 c_X7_rule_85 s11 v3 v4 r10 r10 ((1:Int32)) ((1:Int32))))
 else
 some ((-4:Int32), s7)))))
set_option maxHeartbeats 4000000 in
set_option maxRecDepth 100000 in
theorem w_X7_rule_0 {X : Ctx} {o : Int32 × Sg} (C : Cx NM X cX7_rule 6 RX7 (ws_X7_rule) (some .int) rm_X7_rule) (Rr : Rx NM X 0 0 (some (.int o.1)) SH o.2) (s : Sg) (v1 : Int32) (v2 : Int32) (v3 : Int32) (v4 : Int32) (hf : c_X7_rule_0 s v1 v2 v3 v4 = some o) : XW NM X 6 0 0 SH s 0 [(0, .ref 0), (1, .int v1), (2, .int v2), (3, .int v3), (4, .int v4)] [] := by
  unfold c_X7_rule_0 at hf
  refine X_iload_n C 1 dX7_rule_0 rfl rfl ?_
  refine X_iconst (v := (0:Int32)) C dX7_rule_1 (by decide) ?_
  refine X_iconst (v := (2:Int32)) C dX7_rule_2 (by decide) ?_
  refine X_callSi (As := [.int v1, .int ((0:Int32)), .int ((2:Int32))]) (rest := []) C aw_ok mcs lk_X7_90 (by decide) rfl rfl (Nat.le_of_ble_eq_true rfl) dX7_rule_3 hf (fun r s h => k_X7_within _ _ _ _ (r, s) h) (fun r2 s1 hf => ?_)
  refine X_if_eq (tgt := 20) C dX7_rule_6 (by decide) hf (fun hf => ?_) (fun hf => ?_)
  · refine X_bipush (v := (-2:Int32)) C dX7_rule_20 (by decide) ?_
    exact X_iret C dX7_rule_22 hf Rr
  · refine X_iload_n C 3 dX7_rule_9 rfl rfl ?_
    refine X_iconst (v := (0:Int32)) C dX7_rule_10 (by decide) ?_
    refine X_sipush (v := (1000:Int32)) C dX7_rule_11 (by decide) ?_
    refine X_callSi (As := [.int v3, .int ((0:Int32)), .int ((1000:Int32))]) (rest := []) C aw_ok mcs lk_X7_90 (by decide) rfl rfl (Nat.le_of_ble_eq_true rfl) dX7_rule_14 hf (fun r s h => k_X7_within _ _ _ _ (r, s) h) (fun r4 s3 hf => ?_)
    refine X_if_ne (tgt := 23) C dX7_rule_17 (by decide) hf (fun hf => ?_) (fun hf => ?_)
    · refine X_iload C 4 dX7_rule_23 rfl ?_
      refine X_iconst (v := (0:Int32)) C dX7_rule_25 (by decide) ?_
      refine X_iconst (v := (2:Int32)) C dX7_rule_26 (by decide) ?_
      refine X_callSi (As := [.int v4, .int ((0:Int32)), .int ((2:Int32))]) (rest := []) C aw_ok mcs lk_X7_90 (by decide) rfl rfl (Nat.le_of_ble_eq_true rfl) dX7_rule_27 hf (fun r s h => k_X7_within _ _ _ _ (r, s) h) (fun r6 s5 hf => ?_)
      refine X_if_ne (tgt := 36) C dX7_rule_30 (by decide) hf (fun hf => ?_) (fun hf => ?_)
      · refine X_aload_n C 0 dX7_rule_36 rfl rfl ?_
        refine X_getr C 7 sh_0 nc_7 inM_7 (by decide) (mc wd_63) rfl dX7_rule_37 ?_
        refine X_callVi (As := []) (rest := []) C aw_ok mcs lk_X7_101 sh_13 nc_6 (by decide) rfl rfl (Nat.le_of_ble_eq_true rfl) dX7_rule_40 hf (fun r s h => k_X6_isFull sh_13 sh_14 _ (r, s) h) (fun r8 s7 hf => ?_)
        refine X_if_eq (tgt := 49) C dX7_rule_43 (by decide) hf (fun hf => ?_) (fun hf => ?_)
        · refine X_aload_n C 0 dX7_rule_49 rfl rfl ?_
          refine X_getr C 7 sh_0 nc_7 inM_7 (by decide) (mc wd_63) rfl dX7_rule_50 ?_
          refine X_callVi (As := []) (rest := []) C aw_ok mcs lk_X7_186 sh_13 nc_6 (by decide) rfl rfl (Nat.le_of_ble_eq_true rfl) dX7_rule_53 hf (fun r s h => k_X6_add sh_13 sh_14 _ (r, s) h) (fun r10 s9 hf => ?_)
          refine X_istore (L' := [(0, .ref 0), (1, .int v1), (2, .int v2), (3, .int v3), (4, .int v4), (5, .int r10)]) C [1, 2, 3, 4, 5, 0] dX7_rule_56 (by decide) rfl ?_
          refine X_aload_n C 0 dX7_rule_58 rfl rfl ?_
          refine X_getr C 7 sh_0 nc_7 inM_7 (by decide) (mc wd_63) rfl dX7_rule_59 ?_
          refine X_iload C 5 dX7_rule_62 rfl ?_
          refine X_iconst (v := (0:Int32)) C dX7_rule_64 (by decide) ?_
          refine X_iload_n C 1 dX7_rule_65 rfl rfl ?_
          refine X_callVv (As := [.int r10, .int ((0:Int32)), .int v1]) (rest := []) C aw_ok mcs lk_X7_86 sh_13 nc_6 (by decide) rfl rfl (Nat.le_of_ble_eq_true rfl) dX7_rule_66 hf (fun s h => k_X6_set sh_13 sh_14 _ _ _ _ s h) (fun s11 hf => ?_)
          refine X_aload_n C 0 dX7_rule_69 rfl rfl ?_
          refine X_getr C 7 sh_0 nc_7 inM_7 (by decide) (mc wd_63) rfl dX7_rule_70 ?_
          refine X_iload C 5 dX7_rule_73 rfl ?_
          refine X_iconst (v := (1:Int32)) C dX7_rule_75 (by decide) ?_
          refine X_iload_n C 2 dX7_rule_76 rfl rfl ?_
          refine X_if_eq (tgt := 84) C dX7_rule_77 (by decide) hf (fun hf => ?_) (fun hf => ?_)
          · refine X_iconst (v := (0:Int32)) C dX7_rule_84 (by decide) ?_
            refine X_loc (L' := [(0, .ref 0), (3, .int v3), (4, .int v4), (5, .int r10)]) [0, 3, 4, 5] rfl ?_
            exact w_X7_rule_85 C Rr _ _ _ _ _ _ _ hf
          · refine X_iconst (v := (1:Int32)) C dX7_rule_80 (by decide) ?_
            refine X_goto (tgt := 85) C dX7_rule_81 (by decide) ?_
            refine X_loc (L' := [(0, .ref 0), (3, .int v3), (4, .int v4), (5, .int r10)]) [0, 3, 4, 5] rfl ?_
            exact w_X7_rule_85 C Rr _ _ _ _ _ _ _ hf
        · refine X_bipush (v := (-4:Int32)) C dX7_rule_46 (by decide) ?_
          exact X_iret C dX7_rule_48 hf Rr
      · refine X_bipush (v := (-2:Int32)) C dX7_rule_33 (by decide) ?_
        exact X_iret C dX7_rule_35 hf Rr
    · refine X_bipush (v := (-2:Int32)) C dX7_rule_20 (by decide) ?_
      exact X_iret C dX7_rule_22 hf Rr
def f_X7_rule (s : Sg) (v1 : Int32) (v2 : Int32) (v3 : Int32) (v4 : Int32) : Option (Int32 × Sg) := c_X7_rule_0 s v1 v2 v3 v4
theorem k_X7_rule (s : Sg) (v1 : Int32) (v2 : Int32) (v3 : Int32) (v4 : Int32) (o : Int32 × Sg) (hf : f_X7_rule s v1 v2 v3 v4 = some o) : Ctr NM yX7_rule (ws_X7_rule) rm_X7_rule SH s [.ref 0, .int v1, .int v2, .int v3, .int v4] (some (.int o.1)) o.2 :=
  Ctr.of (by decide) rfl (Nat.le_of_ble_eq_true rfl) (fun X C Rr => by show XW NM X 6 0 0 SH s 0 [(0, .ref 0), (1, .int v1), (2, .int v2), (3, .int v3), (4, .int v4)] []; exact w_X7_rule_0 C Rr s v1 v2 v3 v4 hf)
abbrev ws_X7_unrule : List Cond := Cond.code yX7_unrule cX7_unrule 2 (some .int) :: AW
abbrev rm_X7_unrule : Room := { frames := 0, cells := 0, slots := 0, locals := 0 }
def c_X7_unrule_0 (s : Sg) : Option (Int32 × Sg) :=
lt_ (s 13 3) (fun x1 => lt_ (sgu s 13 3 ((0:Int32))) (fun s2 => some (x1, s2)))
set_option maxHeartbeats 4000000 in
set_option maxRecDepth 100000 in
theorem w_X7_unrule_0 {X : Ctx} {o : Int32 × Sg} (C : Cx NM X cX7_unrule 2 RX7 (ws_X7_unrule) (some .int) rm_X7_unrule) (Rr : Rx NM X 0 0 (some (.int o.1)) SH o.2) (s : Sg) (hf : c_X7_unrule_0 s = some o) : XW NM X 2 0 0 SH s 0 [(0, .ref 0)] [] := by
  unfold c_X7_unrule_0 at hf
  refine X_aload_n C 0 dX7_unrule_0 rfl rfl ?_
  refine X_getr C 7 sh_0 nc_7 inM_7 (by decide) (mc wd_63) rfl dX7_unrule_1 ?_
  refine X_getiN C 3 sh_13 nc_6 inM_6 (by decide) nf_X7_109 rfl dX7_unrule_4 ?_
  refine X_nm hf (fun x1 hf => ?_)
  refine X_istore_n (L' := [(0, .ref 0), (1, .int x1)]) C [1, 0] dX7_unrule_7 rfl (by decide) rfl ?_
  refine X_aload_n C 0 dX7_unrule_8 rfl rfl ?_
  refine X_getr C 7 sh_0 nc_7 inM_7 (by decide) (mc wd_63) rfl dX7_unrule_9 ?_
  refine X_iconst (v := (0:Int32)) C dX7_unrule_12 (by decide) ?_
  refine X_putiN C 3 sh_13 nc_6 inM_6 (by decide) tyX6 tyX6_ok nmX6 nf_X7_109 rfl (by decide +kernel) rfl dX7_unrule_13 hf (fun s2 hf => ?_)
  refine X_iload_n C 1 dX7_unrule_16 rfl rfl ?_
  exact X_iret C dX7_unrule_17 hf Rr
def f_X7_unrule (s : Sg) : Option (Int32 × Sg) := c_X7_unrule_0 s
theorem k_X7_unrule (s : Sg) (o : Int32 × Sg) (hf : f_X7_unrule s = some o) : Ctr NM yX7_unrule (ws_X7_unrule) rm_X7_unrule SH s [.ref 0] (some (.int o.1)) o.2 :=
  Ctr.of (by decide) rfl (Nat.le_of_ble_eq_true rfl) (fun X C Rr => by show XW NM X 2 0 0 SH s 0 [(0, .ref 0)] []; exact w_X7_unrule_0 C Rr s hf)
abbrev ws_X7_forge : List Cond := Cond.code yX7_forge cX7_forge 5 (some .int) :: AW
abbrev rm_X7_forge : Room := { frames := 2, cells := 0, slots := 0, locals := 45 }
def c_X7_forge_0 (s : Sg) (v1 : Int32) (v2 : Int32) (v3 : Int32) : Option (Int32 × Sg) :=
bd (f_X7_within s v1 ((0:Int32)) ((15:Int32))) (fun r2 s1 => if r2 = 0 then
 some ((-2:Int32), s1)
 else
 bd (f_X7_within s1 v2 ((0:Int32)) ((2000:Int32))) (fun r4 s3 => if r4 = 0 then
 some ((-2:Int32), s3)
 else
 bd (f_X7_within s3 v3 ((1:Int32)) ((50:Int32))) (fun r6 s5 => if r6 = 0 then
 some ((-2:Int32), s5)
 else
 bd (f_X6_isFull 15 9 s5) (fun r8 s7 => if r8 = 0 then
 bd (f_X6_add 15 9 s7) (fun r10 s9 => bdv (f_X6_set 15 9 s9 r10 ((0:Int32)) v1) (fun s11 => bdv (f_X6_set 15 9 s11 r10 ((1:Int32)) v2) (fun s13 => bdv (f_X6_set 15 9 s13 r10 ((2:Int32)) v3) (fun s15 => some (r10, s15)))))
 else
 some ((-4:Int32), s7)))))
set_option maxHeartbeats 4000000 in
set_option maxRecDepth 100000 in
theorem w_X7_forge_0 {X : Ctx} {o : Int32 × Sg} (C : Cx NM X cX7_forge 5 RX7 (ws_X7_forge) (some .int) rm_X7_forge) (Rr : Rx NM X 0 0 (some (.int o.1)) SH o.2) (s : Sg) (v1 : Int32) (v2 : Int32) (v3 : Int32) (hf : c_X7_forge_0 s v1 v2 v3 = some o) : XW NM X 5 0 0 SH s 0 [(0, .ref 0), (1, .int v1), (2, .int v2), (3, .int v3)] [] := by
  unfold c_X7_forge_0 at hf
  refine X_iload_n C 1 dX7_forge_0 rfl rfl ?_
  refine X_iconst (v := (0:Int32)) C dX7_forge_1 (by decide) ?_
  refine X_bipush (v := (15:Int32)) C dX7_forge_2 (by decide) ?_
  refine X_callSi (As := [.int v1, .int ((0:Int32)), .int ((15:Int32))]) (rest := []) C aw_ok mcs lk_X7_90 (by decide) rfl rfl (Nat.le_of_ble_eq_true rfl) dX7_forge_4 hf (fun r s h => k_X7_within _ _ _ _ (r, s) h) (fun r2 s1 hf => ?_)
  refine X_if_eq (tgt := 21) C dX7_forge_7 (by decide) hf (fun hf => ?_) (fun hf => ?_)
  · refine X_bipush (v := (-2:Int32)) C dX7_forge_21 (by decide) ?_
    exact X_iret C dX7_forge_23 hf Rr
  · refine X_iload_n C 2 dX7_forge_10 rfl rfl ?_
    refine X_iconst (v := (0:Int32)) C dX7_forge_11 (by decide) ?_
    refine X_sipush (v := (2000:Int32)) C dX7_forge_12 (by decide) ?_
    refine X_callSi (As := [.int v2, .int ((0:Int32)), .int ((2000:Int32))]) (rest := []) C aw_ok mcs lk_X7_90 (by decide) rfl rfl (Nat.le_of_ble_eq_true rfl) dX7_forge_15 hf (fun r s h => k_X7_within _ _ _ _ (r, s) h) (fun r4 s3 hf => ?_)
    refine X_if_ne (tgt := 24) C dX7_forge_18 (by decide) hf (fun hf => ?_) (fun hf => ?_)
    · refine X_iload_n C 3 dX7_forge_24 rfl rfl ?_
      refine X_iconst (v := (1:Int32)) C dX7_forge_25 (by decide) ?_
      refine X_bipush (v := (50:Int32)) C dX7_forge_26 (by decide) ?_
      refine X_callSi (As := [.int v3, .int ((1:Int32)), .int ((50:Int32))]) (rest := []) C aw_ok mcs lk_X7_90 (by decide) rfl rfl (Nat.le_of_ble_eq_true rfl) dX7_forge_28 hf (fun r s h => k_X7_within _ _ _ _ (r, s) h) (fun r6 s5 hf => ?_)
      refine X_if_ne (tgt := 37) C dX7_forge_31 (by decide) hf (fun hf => ?_) (fun hf => ?_)
      · refine X_aload_n C 0 dX7_forge_37 rfl rfl ?_
        refine X_getr C 8 sh_0 nc_7 inM_7 (by decide) (mc wd_68) rfl dX7_forge_38 ?_
        refine X_callVi (As := []) (rest := []) C aw_ok mcs lk_X7_101 sh_15 nc_6 (by decide) rfl rfl (Nat.le_of_ble_eq_true rfl) dX7_forge_41 hf (fun r s h => k_X6_isFull sh_15 sh_16 _ (r, s) h) (fun r8 s7 hf => ?_)
        refine X_if_eq (tgt := 50) C dX7_forge_44 (by decide) hf (fun hf => ?_) (fun hf => ?_)
        · refine X_aload_n C 0 dX7_forge_50 rfl rfl ?_
          refine X_getr C 8 sh_0 nc_7 inM_7 (by decide) (mc wd_68) rfl dX7_forge_51 ?_
          refine X_callVi (As := []) (rest := []) C aw_ok mcs lk_X7_186 sh_15 nc_6 (by decide) rfl rfl (Nat.le_of_ble_eq_true rfl) dX7_forge_54 hf (fun r s h => k_X6_add sh_15 sh_16 _ (r, s) h) (fun r10 s9 hf => ?_)
          refine X_istore (L' := [(0, .ref 0), (1, .int v1), (2, .int v2), (3, .int v3), (4, .int r10)]) C [1, 2, 3, 4, 0] dX7_forge_57 (by decide) rfl ?_
          refine X_aload_n C 0 dX7_forge_59 rfl rfl ?_
          refine X_getr C 8 sh_0 nc_7 inM_7 (by decide) (mc wd_68) rfl dX7_forge_60 ?_
          refine X_iload C 4 dX7_forge_63 rfl ?_
          refine X_iconst (v := (0:Int32)) C dX7_forge_65 (by decide) ?_
          refine X_iload_n C 1 dX7_forge_66 rfl rfl ?_
          refine X_callVv (As := [.int r10, .int ((0:Int32)), .int v1]) (rest := []) C aw_ok mcs lk_X7_86 sh_15 nc_6 (by decide) rfl rfl (Nat.le_of_ble_eq_true rfl) dX7_forge_67 hf (fun s h => k_X6_set sh_15 sh_16 _ _ _ _ s h) (fun s11 hf => ?_)
          refine X_aload_n C 0 dX7_forge_70 rfl rfl ?_
          refine X_getr C 8 sh_0 nc_7 inM_7 (by decide) (mc wd_68) rfl dX7_forge_71 ?_
          refine X_iload C 4 dX7_forge_74 rfl ?_
          refine X_iconst (v := (1:Int32)) C dX7_forge_76 (by decide) ?_
          refine X_iload_n C 2 dX7_forge_77 rfl rfl ?_
          refine X_callVv (As := [.int r10, .int ((1:Int32)), .int v2]) (rest := []) C aw_ok mcs lk_X7_86 sh_15 nc_6 (by decide) rfl rfl (Nat.le_of_ble_eq_true rfl) dX7_forge_78 hf (fun s h => k_X6_set sh_15 sh_16 _ _ _ _ s h) (fun s13 hf => ?_)
          refine X_aload_n C 0 dX7_forge_81 rfl rfl ?_
          refine X_getr C 8 sh_0 nc_7 inM_7 (by decide) (mc wd_68) rfl dX7_forge_82 ?_
          refine X_iload C 4 dX7_forge_85 rfl ?_
          refine X_iconst (v := (2:Int32)) C dX7_forge_87 (by decide) ?_
          refine X_iload_n C 3 dX7_forge_88 rfl rfl ?_
          refine X_callVv (As := [.int r10, .int ((2:Int32)), .int v3]) (rest := []) C aw_ok mcs lk_X7_86 sh_15 nc_6 (by decide) rfl rfl (Nat.le_of_ble_eq_true rfl) dX7_forge_89 hf (fun s h => k_X6_set sh_15 sh_16 _ _ _ _ s h) (fun s15 hf => ?_)
          refine X_iload C 4 dX7_forge_92 rfl ?_
          exact X_iret C dX7_forge_94 hf Rr
        · refine X_bipush (v := (-4:Int32)) C dX7_forge_47 (by decide) ?_
          exact X_iret C dX7_forge_49 hf Rr
      · refine X_bipush (v := (-2:Int32)) C dX7_forge_34 (by decide) ?_
        exact X_iret C dX7_forge_36 hf Rr
    · refine X_bipush (v := (-2:Int32)) C dX7_forge_21 (by decide) ?_
      exact X_iret C dX7_forge_23 hf Rr
def f_X7_forge (s : Sg) (v1 : Int32) (v2 : Int32) (v3 : Int32) : Option (Int32 × Sg) := c_X7_forge_0 s v1 v2 v3
theorem k_X7_forge (s : Sg) (v1 : Int32) (v2 : Int32) (v3 : Int32) (o : Int32 × Sg) (hf : f_X7_forge s v1 v2 v3 = some o) : Ctr NM yX7_forge (ws_X7_forge) rm_X7_forge SH s [.ref 0, .int v1, .int v2, .int v3] (some (.int o.1)) o.2 :=
  Ctr.of (by decide) rfl (Nat.le_of_ble_eq_true rfl) (fun X C Rr => by show XW NM X 5 0 0 SH s 0 [(0, .ref 0), (1, .int v1), (2, .int v2), (3, .int v3)] []; exact w_X7_forge_0 C Rr s v1 v2 v3 hf)
abbrev ws_X7_sale : List Cond := Cond.code yX7_sale cX7_sale 1 (some .int) :: AW
abbrev rm_X7_sale : Room := { frames := 42, cells := 0, slots := 0, locals := 1048 }
def c_X7_sale_0 (N : Nat) (s : Sg) : Option (Int32 × Sg) :=
bdv (f_X4_settle N s) (fun s1 => some (s1 17 8, s1))
set_option maxHeartbeats 4000000 in
set_option maxRecDepth 100000 in
theorem w_X7_sale_0 {X : Ctx} {N : Nat} {o : Int32 × Sg} (C : Cx NM X cX7_sale 1 RX7 (ws_X7_sale) (some .int) rm_X7_sale) (Rr : Rx NM X 0 0 (some (.int o.1)) SH o.2) (s : Sg) (hf : c_X7_sale_0 N s = some o) : XW NM X 1 0 0 SH s 0 [(0, .ref 0)] [] := by
  unfold c_X7_sale_0 at hf
  refine X_aload_n C 0 dX7_sale_0 rfl rfl ?_
  refine X_getr C 9 sh_0 nc_7 inM_7 (by decide) (mc wd_69) rfl dX7_sale_1 ?_
  refine X_aload_n C 0 dX7_sale_4 rfl rfl ?_
  refine X_getr C 5 sh_0 nc_7 inM_7 (by decide) (mc wd_65) rfl dX7_sale_5 ?_
  refine X_aload_n C 0 dX7_sale_8 rfl rfl ?_
  refine X_getr C 8 sh_0 nc_7 inM_7 (by decide) (mc wd_68) rfl dX7_sale_9 ?_
  refine X_callVv (As := [.ref 8, .ref 15]) (rest := []) C aw_ok mcs lk_X7_189 sh_17 nc_4 (by decide) rfl rfl (Nat.le_of_ble_eq_true rfl) dX7_sale_12 hf (fun s h => k_X4_settle _ s h) (fun s1 hf => ?_)
  refine X_aload_n C 0 dX7_sale_15 rfl rfl ?_
  refine X_getr C 9 sh_0 nc_7 inM_7 (by decide) (mc wd_69) rfl dX7_sale_16 ?_
  refine X_getiN C 8 sh_17 nc_4 inM_4 (by decide) nf_X7_193 rfl dX7_sale_19 ?_
  exact X_iret C dX7_sale_22 hf Rr
def f_X7_sale (N : Nat) (s : Sg) : Option (Int32 × Sg) := c_X7_sale_0 N s
theorem k_X7_sale {N : Nat} (s : Sg) (o : Int32 × Sg) (hf : f_X7_sale N s = some o) : Ctr NM yX7_sale (ws_X7_sale) rm_X7_sale SH s [.ref 0] (some (.int o.1)) o.2 :=
  Ctr.of (by decide) rfl (Nat.le_of_ble_eq_true rfl) (fun X C Rr => by show XW NM X 1 0 0 SH s 0 [(0, .ref 0)] []; exact w_X7_sale_0 C Rr s hf)
abbrev ws_X7_sell : List Cond := Cond.code yX7_sell cX7_sell 5 (some .int) :: AW
abbrev rm_X7_sell : Room := { frames := 42, cells := 0, slots := 0, locals := 1048 }
def c_X7_sell_107 (N : Nat) (s : Sg) (v1 : Int32) : Option (Int32 × Sg) :=
lt_ (sgu s 0 13 ((s 0 13) + v1)) (fun s1 => lt_ (sgu s1 0 14 ((s1 0 14) + (s1 17 8))) (fun s2 => some (v1, s2)))
set_option maxHeartbeats 4000000 in
set_option maxRecDepth 100000 in
theorem w_X7_sell_107 {X : Ctx} {N : Nat} {o : Int32 × Sg} (C : Cx NM X cX7_sell 5 RX7 (ws_X7_sell) (some .int) rm_X7_sell) (Rr : Rx NM X 0 0 (some (.int o.1)) SH o.2) (s : Sg) (v1 : Int32) (hf : c_X7_sell_107 N s v1 = some o) : XW NM X 5 0 0 SH s 107 [(0, .ref 0), (1, .int v1)] [] := by
  unfold c_X7_sell_107 at hf
  refine X_aload_n C 0 dX7_sell_107 rfl rfl ?_
  refine X_dup C dX7_sell_108 rfl ?_
  refine X_geti C 13 sh_0 nc_7 inM_7 (by decide) (mc wd_70) rfl dX7_sell_109 ?_
  refine X_iload_n C 1 dX7_sell_112 rfl rfl ?_
  refine X_iadd C dX7_sell_113 ?_
  refine X_puti C 13 sh_0 nc_7 inM_7 (by decide) tyX7 tyX7_ok nmX7 (mc wd_70) rfl (by decide +kernel) rfl dX7_sell_114 hf (fun s1 hf => ?_)
  refine X_aload_n C 0 dX7_sell_117 rfl rfl ?_
  refine X_dup C dX7_sell_118 rfl ?_
  refine X_geti C 14 sh_0 nc_7 inM_7 (by decide) (mc wd_71) rfl dX7_sell_119 ?_
  refine X_aload_n C 0 dX7_sell_122 rfl rfl ?_
  refine X_getr C 9 sh_0 nc_7 inM_7 (by decide) (mc wd_69) rfl dX7_sell_123 ?_
  refine X_getiN C 8 sh_17 nc_4 inM_4 (by decide) nf_X7_193 rfl dX7_sell_126 ?_
  refine X_iadd C dX7_sell_129 ?_
  refine X_puti C 14 sh_0 nc_7 inM_7 (by decide) tyX7 tyX7_ok nmX7 (mc wd_71) rfl (by decide +kernel) rfl dX7_sell_130 hf (fun s2 hf => ?_)
  refine X_iload_n C 1 dX7_sell_133 rfl rfl ?_
  exact X_iret C dX7_sell_134 hf Rr
def c_X7_sell_101 (N : Nat) (K19 : Sg → Int32 → Int32 → Option (Int32 × Sg)) (s : Sg) (v1 : Int32) (v2 : Int32) : Option (Int32 × Sg) :=
K19 s v1 (v2 + (1:Int32))
set_option maxHeartbeats 4000000 in
set_option maxRecDepth 100000 in
theorem w_X7_sell_101 {X : Ctx} {N : Nat} {o : Int32 × Sg} (C : Cx NM X cX7_sell 5 RX7 (ws_X7_sell) (some .int) rm_X7_sell) (Rr : Rx NM X 0 0 (some (.int o.1)) SH o.2) {K19 : Sg → Int32 → Int32 → Option (Int32 × Sg)} (hK19 : ∀ (s : Sg) (v1 : Int32) (v2 : Int32), K19 s v1 v2 = some o → XW NM X 5 0 0 SH s 19 [(0, .ref 0), (1, .int v1), (2, .int v2)] []) (s : Sg) (v1 : Int32) (v2 : Int32) (hf : c_X7_sell_101 N K19 s v1 v2 = some o) : XW NM X 5 0 0 SH s 101 [(0, .ref 0), (1, .int v1), (2, .int v2)] [] := by
  unfold c_X7_sell_101 at hf
  refine X_iinc (v := (1:Int32)) (L' := [(0, .ref 0), (1, .int v1), (2, .int (v2 + (1:Int32)))]) C 2 [1, 2, 0] dX7_sell_101 rfl (by decide) (by decide) rfl ?_
  refine X_goto (tgt := 19) C dX7_sell_104 (by decide) ?_
  exact hK19 _ _ _ hf
def c_X7_sell_19 (N : Nat) (K19 : Sg → Int32 → Int32 → Option (Int32 × Sg)) (s : Sg) (v1 : Int32) (v2 : Int32) : Option (Int32 × Sg) :=
if (s 17 7) ≤ v2 then
 c_X7_sell_107 N s v1
 else
 gd (vi v2 8) (lt_ (s 22 v2.toNatClampNeg) (fun x1 => if x1 = ((-1:Int32)) then
 c_X7_sell_101 N K19 s v1 v2
 else
 bd (f_X6_get 15 9 s x1 ((1:Int32))) (fun r3 s2 => gd (vi v2 8) (bdv (f_X6_set 15 9 s2 x1 ((1:Int32)) (r3 - (s2 19 v2.toNatClampNeg))) (fun s4 => gd (vi v2 8) (bdv (f_X6_set 8 360 s4 (s4 18 v2.toNatClampNeg) ((5:Int32)) x1) (fun s6 => c_X7_sell_101 N K19 s6 (v1 + (1:Int32)) v2)))))))
set_option maxHeartbeats 4000000 in
set_option maxRecDepth 100000 in
theorem w_X7_sell_19 {X : Ctx} {N : Nat} {o : Int32 × Sg} (C : Cx NM X cX7_sell 5 RX7 (ws_X7_sell) (some .int) rm_X7_sell) (Rr : Rx NM X 0 0 (some (.int o.1)) SH o.2) {K19 : Sg → Int32 → Int32 → Option (Int32 × Sg)} (hK19 : ∀ (s : Sg) (v1 : Int32) (v2 : Int32), K19 s v1 v2 = some o → XW NM X 5 0 0 SH s 19 [(0, .ref 0), (1, .int v1), (2, .int v2)] []) (s : Sg) (v1 : Int32) (v2 : Int32) (hf : c_X7_sell_19 N K19 s v1 v2 = some o) : XW NM X 5 0 0 SH s 19 [(0, .ref 0), (1, .int v1), (2, .int v2)] [] := by
  unfold c_X7_sell_19 at hf
  refine X_iload_n C 2 dX7_sell_19 rfl rfl ?_
  refine X_aload_n C 0 dX7_sell_20 rfl rfl ?_
  refine X_getr C 9 sh_0 nc_7 inM_7 (by decide) (mc wd_69) rfl dX7_sell_21 ?_
  refine X_getiN C 7 sh_17 nc_4 inM_4 (by decide) nf_X7_196 rfl dX7_sell_24 ?_
  refine X_icmp_ge (tgt := 107) C dX7_sell_27 (by decide) hf (fun hf => ?_) (fun hf => ?_)
  · refine X_loc (L' := [(0, .ref 0), (1, .int v1)]) [0, 1] rfl ?_
    exact w_X7_sell_107 C Rr _ _ hf
  · refine X_aload_n C 0 dX7_sell_30 rfl rfl ?_
    refine X_getr C 9 sh_0 nc_7 inM_7 (by decide) (mc wd_69) rfl dX7_sell_31 ?_
    refine X_getrN C 4 sh_17 nc_4 inM_4 (by decide) nf_X7_199 rfl dX7_sell_34 ?_
    refine X_iload_n C 2 dX7_sell_37 rfl rfl ?_
    refine X_iald C sh_22 dX7_sell_38 hf (fun hf => ?_)
    refine X_nm hf (fun x1 hf => ?_)
    refine X_istore_n (L' := [(0, .ref 0), (1, .int v1), (2, .int v2), (3, .int x1)]) C [1, 2, 3, 0] dX7_sell_39 rfl (by decide) rfl ?_
    refine X_iload_n C 3 dX7_sell_40 rfl rfl ?_
    refine X_iconst (v := (-1:Int32)) C dX7_sell_41 (by decide) ?_
    refine X_icmp_ne (tgt := 48) C dX7_sell_42 (by decide) hf (fun hf => ?_) (fun hf => ?_)
    · refine X_aload_n C 0 dX7_sell_48 rfl rfl ?_
      refine X_getr C 8 sh_0 nc_7 inM_7 (by decide) (mc wd_68) rfl dX7_sell_49 ?_
      refine X_iload_n C 3 dX7_sell_52 rfl rfl ?_
      refine X_iconst (v := (1:Int32)) C dX7_sell_53 (by decide) ?_
      refine X_callVi (As := [.int x1, .int ((1:Int32))]) (rest := []) C aw_ok mcs lk_X7_112 sh_15 nc_6 (by decide) rfl rfl (Nat.le_of_ble_eq_true rfl) dX7_sell_54 hf (fun r s h => k_X6_get sh_15 sh_16 _ _ _ (r, s) h) (fun r3 s2 hf => ?_)
      refine X_istore (L' := [(0, .ref 0), (1, .int v1), (2, .int v2), (3, .int x1), (4, .int r3)]) C [1, 2, 3, 4, 0] dX7_sell_57 (by decide) rfl ?_
      refine X_aload_n C 0 dX7_sell_59 rfl rfl ?_
      refine X_getr C 8 sh_0 nc_7 inM_7 (by decide) (mc wd_68) rfl dX7_sell_60 ?_
      refine X_iload_n C 3 dX7_sell_63 rfl rfl ?_
      refine X_iconst (v := (1:Int32)) C dX7_sell_64 (by decide) ?_
      refine X_iload C 4 dX7_sell_65 rfl ?_
      refine X_aload_n C 0 dX7_sell_67 rfl rfl ?_
      refine X_getr C 9 sh_0 nc_7 inM_7 (by decide) (mc wd_69) rfl dX7_sell_68 ?_
      refine X_getrN C 1 sh_17 nc_4 inM_4 (by decide) nf_X7_202 rfl dX7_sell_71 ?_
      refine X_iload_n C 2 dX7_sell_74 rfl rfl ?_
      refine X_iald C sh_19 dX7_sell_75 hf (fun hf => ?_)
      refine X_isub C dX7_sell_76 ?_
      refine X_callVv (As := [.int x1, .int ((1:Int32)), .int (r3 - (s2 19 v2.toNatClampNeg))]) (rest := []) C aw_ok mcs lk_X7_86 sh_15 nc_6 (by decide) rfl rfl (Nat.le_of_ble_eq_true rfl) dX7_sell_77 hf (fun s h => k_X6_set sh_15 sh_16 _ _ _ _ s h) (fun s4 hf => ?_)
      refine X_aload_n C 0 dX7_sell_80 rfl rfl ?_
      refine X_getr C 5 sh_0 nc_7 inM_7 (by decide) (mc wd_65) rfl dX7_sell_81 ?_
      refine X_aload_n C 0 dX7_sell_84 rfl rfl ?_
      refine X_getr C 9 sh_0 nc_7 inM_7 (by decide) (mc wd_69) rfl dX7_sell_85 ?_
      refine X_getrN C 0 sh_17 nc_4 inM_4 (by decide) nf_X7_205 rfl dX7_sell_88 ?_
      refine X_iload_n C 2 dX7_sell_91 rfl rfl ?_
      refine X_iald C sh_18 dX7_sell_92 hf (fun hf => ?_)
      refine X_iconst (v := (5:Int32)) C dX7_sell_93 (by decide) ?_
      refine X_iload_n C 3 dX7_sell_94 rfl rfl ?_
      refine X_callVv (As := [.int (s4 18 v2.toNatClampNeg), .int ((5:Int32)), .int x1]) (rest := []) C aw_ok mcs lk_X7_86 sh_8 nc_6 (by decide) rfl rfl (Nat.le_of_ble_eq_true rfl) dX7_sell_95 hf (fun s h => k_X6_set sh_8 sh_9 _ _ _ _ s h) (fun s6 hf => ?_)
      refine X_iinc (v := (1:Int32)) (L' := [(0, .ref 0), (1, .int (v1 + (1:Int32))), (2, .int v2), (3, .int x1), (4, .int r3)]) C 1 [1, 0, 2, 3, 4] dX7_sell_98 rfl (by decide) (by decide) rfl ?_
      refine X_loc (L' := [(0, .ref 0), (1, .int (v1 + (1:Int32))), (2, .int v2)]) [0, 1, 2] rfl ?_
      exact w_X7_sell_101 C Rr hK19 _ _ _ hf
    · refine X_goto (tgt := 101) C dX7_sell_45 (by decide) ?_
      refine X_loc (L' := [(0, .ref 0), (1, .int v1), (2, .int v2)]) [0, 1, 2] rfl ?_
      exact w_X7_sell_101 C Rr hK19 _ _ _ hf
def b_X7_sell_19 (N : Nat) : Nat → Sg → Int32 → Int32 → Option (Int32 × Sg)
  | 0, _, _, _ => none
  | j + 1, s, v1, v2 => c_X7_sell_19 N (b_X7_sell_19 N j) s v1 v2
theorem h_X7_sell_19 {X : Ctx} {N : Nat} {o : Int32 × Sg} (C : Cx NM X cX7_sell 5 RX7 (ws_X7_sell) (some .int) rm_X7_sell) (Rr : Rx NM X 0 0 (some (.int o.1)) SH o.2) : ∀ (j : Nat) (s : Sg) (v1 : Int32) (v2 : Int32), b_X7_sell_19 N j s v1 v2 = some o → XW NM X 5 0 0 SH s 19 [(0, .ref 0), (1, .int v1), (2, .int v2)] [] := by
  intro j
  induction j with
  | zero => intro s v1 v2 hf; cases (show none = some o from hf)
  | succ j ih => intro s v1 v2 hf; exact w_X7_sell_19 C Rr ih s v1 v2 hf
def c_X7_sell_0 (N : Nat) (s : Sg) : Option (Int32 × Sg) :=
bdv (f_X4_settle N s) (fun s1 => b_X7_sell_19 N N s1 ((0:Int32)) ((0:Int32)))
set_option maxHeartbeats 4000000 in
set_option maxRecDepth 100000 in
theorem w_X7_sell_0 {X : Ctx} {N : Nat} {o : Int32 × Sg} (C : Cx NM X cX7_sell 5 RX7 (ws_X7_sell) (some .int) rm_X7_sell) (Rr : Rx NM X 0 0 (some (.int o.1)) SH o.2) (s : Sg) (hf : c_X7_sell_0 N s = some o) : XW NM X 5 0 0 SH s 0 [(0, .ref 0)] [] := by
  unfold c_X7_sell_0 at hf
  refine X_aload_n C 0 dX7_sell_0 rfl rfl ?_
  refine X_getr C 9 sh_0 nc_7 inM_7 (by decide) (mc wd_69) rfl dX7_sell_1 ?_
  refine X_aload_n C 0 dX7_sell_4 rfl rfl ?_
  refine X_getr C 5 sh_0 nc_7 inM_7 (by decide) (mc wd_65) rfl dX7_sell_5 ?_
  refine X_aload_n C 0 dX7_sell_8 rfl rfl ?_
  refine X_getr C 8 sh_0 nc_7 inM_7 (by decide) (mc wd_68) rfl dX7_sell_9 ?_
  refine X_callVv (As := [.ref 8, .ref 15]) (rest := []) C aw_ok mcs lk_X7_189 sh_17 nc_4 (by decide) rfl rfl (Nat.le_of_ble_eq_true rfl) dX7_sell_12 hf (fun s h => k_X4_settle _ s h) (fun s1 hf => ?_)
  refine X_iconst (v := (0:Int32)) C dX7_sell_15 (by decide) ?_
  refine X_istore_n (L' := [(0, .ref 0), (1, .int ((0:Int32)))]) C [1, 0] dX7_sell_16 rfl (by decide) rfl ?_
  refine X_iconst (v := (0:Int32)) C dX7_sell_17 (by decide) ?_
  refine X_istore_n (L' := [(0, .ref 0), (1, .int ((0:Int32))), (2, .int ((0:Int32)))]) C [1, 2, 0] dX7_sell_18 rfl (by decide) rfl ?_
  exact h_X7_sell_19 C Rr _ _ _ _ hf
def f_X7_sell (N : Nat) (s : Sg) : Option (Int32 × Sg) := c_X7_sell_0 N s
theorem k_X7_sell {N : Nat} (s : Sg) (o : Int32 × Sg) (hf : f_X7_sell N s = some o) : Ctr NM yX7_sell (ws_X7_sell) rm_X7_sell SH s [.ref 0] (some (.int o.1)) o.2 :=
  Ctr.of (by decide) rfl (Nat.le_of_ble_eq_true rfl) (fun X C Rr => by show XW NM X 5 0 0 SH s 0 [(0, .ref 0)] []; exact w_X7_sell_0 C Rr s hf)
abbrev ws_X7_month : List Cond := Cond.code yX7_month cX7_month 4 (some .int) :: AW
abbrev rm_X7_month : Room := { frames := 2, cells := 0, slots := 0, locals := 45 }
def c_X7_month_0 (s : Sg) (v1 : Int32) (v2 : Int32) (v3 : Int32) : Option (Int32 × Sg) :=
bd (f_X7_within s v1 ((0:Int32)) ((11:Int32))) (fun r2 s1 => if r2 = 0 then
 some ((-2:Int32), s1)
 else
 bd (f_X7_within s1 v2 ((0:Int32)) ((4:Int32))) (fun r4 s3 => if r4 = 0 then
 some ((-2:Int32), s3)
 else
 bd (f_X7_within s3 v3 ((0:Int32)) ((1000:Int32))) (fun r6 s5 => if r6 = 0 then
 some ((-2:Int32), s5)
 else
 bdv (f_X6_set 25 24 s5 v1 ((0:Int32)) v2) (fun s7 => bdv (f_X6_set 25 24 s7 v1 ((1:Int32)) v3) (fun s9 => some ((1:Int32), s9))))))
set_option maxHeartbeats 4000000 in
set_option maxRecDepth 100000 in
theorem w_X7_month_0 {X : Ctx} {o : Int32 × Sg} (C : Cx NM X cX7_month 4 RX7 (ws_X7_month) (some .int) rm_X7_month) (Rr : Rx NM X 0 0 (some (.int o.1)) SH o.2) (s : Sg) (v1 : Int32) (v2 : Int32) (v3 : Int32) (hf : c_X7_month_0 s v1 v2 v3 = some o) : XW NM X 4 0 0 SH s 0 [(0, .ref 0), (1, .int v1), (2, .int v2), (3, .int v3)] [] := by
  unfold c_X7_month_0 at hf
  refine X_iload_n C 1 dX7_month_0 rfl rfl ?_
  refine X_iconst (v := (0:Int32)) C dX7_month_1 (by decide) ?_
  refine X_bipush (v := (11:Int32)) C dX7_month_2 (by decide) ?_
  refine X_callSi (As := [.int v1, .int ((0:Int32)), .int ((11:Int32))]) (rest := []) C aw_ok mcs lk_X7_90 (by decide) rfl rfl (Nat.le_of_ble_eq_true rfl) dX7_month_4 hf (fun r s h => k_X7_within _ _ _ _ (r, s) h) (fun r2 s1 hf => ?_)
  refine X_if_ne (tgt := 13) C dX7_month_7 (by decide) hf (fun hf => ?_) (fun hf => ?_)
  · refine X_iload_n C 2 dX7_month_13 rfl rfl ?_
    refine X_iconst (v := (0:Int32)) C dX7_month_14 (by decide) ?_
    refine X_iconst (v := (4:Int32)) C dX7_month_15 (by decide) ?_
    refine X_callSi (As := [.int v2, .int ((0:Int32)), .int ((4:Int32))]) (rest := []) C aw_ok mcs lk_X7_90 (by decide) rfl rfl (Nat.le_of_ble_eq_true rfl) dX7_month_16 hf (fun r s h => k_X7_within _ _ _ _ (r, s) h) (fun r4 s3 hf => ?_)
    refine X_if_eq (tgt := 33) C dX7_month_19 (by decide) hf (fun hf => ?_) (fun hf => ?_)
    · refine X_bipush (v := (-2:Int32)) C dX7_month_33 (by decide) ?_
      exact X_iret C dX7_month_35 hf Rr
    · refine X_iload_n C 3 dX7_month_22 rfl rfl ?_
      refine X_iconst (v := (0:Int32)) C dX7_month_23 (by decide) ?_
      refine X_sipush (v := (1000:Int32)) C dX7_month_24 (by decide) ?_
      refine X_callSi (As := [.int v3, .int ((0:Int32)), .int ((1000:Int32))]) (rest := []) C aw_ok mcs lk_X7_90 (by decide) rfl rfl (Nat.le_of_ble_eq_true rfl) dX7_month_27 hf (fun r s h => k_X7_within _ _ _ _ (r, s) h) (fun r6 s5 hf => ?_)
      refine X_if_ne (tgt := 36) C dX7_month_30 (by decide) hf (fun hf => ?_) (fun hf => ?_)
      · refine X_aload_n C 0 dX7_month_36 rfl rfl ?_
        refine X_getr C 10 sh_0 nc_7 inM_7 (by decide) (mc wd_72) rfl dX7_month_37 ?_
        refine X_iload_n C 1 dX7_month_40 rfl rfl ?_
        refine X_iconst (v := (0:Int32)) C dX7_month_41 (by decide) ?_
        refine X_iload_n C 2 dX7_month_42 rfl rfl ?_
        refine X_callVv (As := [.int v1, .int ((0:Int32)), .int v2]) (rest := []) C aw_ok mcs lk_X7_86 sh_25 nc_6 (by decide) rfl rfl (Nat.le_of_ble_eq_true rfl) dX7_month_43 hf (fun s h => k_X6_set sh_25 sh_26 _ _ _ _ s h) (fun s7 hf => ?_)
        refine X_aload_n C 0 dX7_month_46 rfl rfl ?_
        refine X_getr C 10 sh_0 nc_7 inM_7 (by decide) (mc wd_72) rfl dX7_month_47 ?_
        refine X_iload_n C 1 dX7_month_50 rfl rfl ?_
        refine X_iconst (v := (1:Int32)) C dX7_month_51 (by decide) ?_
        refine X_iload_n C 3 dX7_month_52 rfl rfl ?_
        refine X_callVv (As := [.int v1, .int ((1:Int32)), .int v3]) (rest := []) C aw_ok mcs lk_X7_86 sh_25 nc_6 (by decide) rfl rfl (Nat.le_of_ble_eq_true rfl) dX7_month_53 hf (fun s h => k_X6_set sh_25 sh_26 _ _ _ _ s h) (fun s9 hf => ?_)
        refine X_iconst (v := (1:Int32)) C dX7_month_56 (by decide) ?_
        exact X_iret C dX7_month_57 hf Rr
      · refine X_bipush (v := (-2:Int32)) C dX7_month_33 (by decide) ?_
        exact X_iret C dX7_month_35 hf Rr
  · refine X_bipush (v := (-2:Int32)) C dX7_month_10 (by decide) ?_
    exact X_iret C dX7_month_12 hf Rr
def f_X7_month (s : Sg) (v1 : Int32) (v2 : Int32) (v3 : Int32) : Option (Int32 × Sg) := c_X7_month_0 s v1 v2 v3
theorem k_X7_month (s : Sg) (v1 : Int32) (v2 : Int32) (v3 : Int32) (o : Int32 × Sg) (hf : f_X7_month s v1 v2 v3 = some o) : Ctr NM yX7_month (ws_X7_month) rm_X7_month SH s [.ref 0, .int v1, .int v2, .int v3] (some (.int o.1)) o.2 :=
  Ctr.of (by decide) rfl (Nat.le_of_ble_eq_true rfl) (fun X C Rr => by show XW NM X 4 0 0 SH s 0 [(0, .ref 0), (1, .int v1), (2, .int v2), (3, .int v3)] []; exact w_X7_month_0 C Rr s v1 v2 v3 hf)
abbrev ws_X7_pace : List Cond := Cond.code yX7_pace cX7_pace 5 (some .int) :: AW
abbrev rm_X7_pace : Room := { frames := 2, cells := 0, slots := 0, locals := 45 }
def c_X7_pace_0 (s : Sg) (v1 : Int32) (v2 : Int32) (v3 : Int32) (v4 : Int32) : Option (Int32 × Sg) :=
bd (f_X7_within s v1 ((0:Int32)) ((4:Int32))) (fun r2 s1 => if r2 = 0 then
 some ((-2:Int32), s1)
 else
 bd (f_X7_within s1 v2 ((0:Int32)) ((1000:Int32))) (fun r4 s3 => if r4 = 0 then
 some ((-2:Int32), s3)
 else
 bd (f_X7_within s3 v3 ((0:Int32)) ((1000:Int32))) (fun r6 s5 => if r6 = 0 then
 some ((-2:Int32), s5)
 else
 bd (f_X7_within s5 v4 ((0:Int32)) ((1000:Int32))) (fun r8 s7 => if r8 = 0 then
 some ((-2:Int32), s7)
 else
 bdv (f_X6_set 27 15 s7 v1 ((0:Int32)) v2) (fun s9 => bdv (f_X6_set 27 15 s9 v1 ((1:Int32)) v3) (fun s11 => bdv (f_X6_set 27 15 s11 v1 ((2:Int32)) v4) (fun s13 => some ((1:Int32), s13))))))))
set_option maxHeartbeats 4000000 in
set_option maxRecDepth 100000 in
theorem w_X7_pace_0 {X : Ctx} {o : Int32 × Sg} (C : Cx NM X cX7_pace 5 RX7 (ws_X7_pace) (some .int) rm_X7_pace) (Rr : Rx NM X 0 0 (some (.int o.1)) SH o.2) (s : Sg) (v1 : Int32) (v2 : Int32) (v3 : Int32) (v4 : Int32) (hf : c_X7_pace_0 s v1 v2 v3 v4 = some o) : XW NM X 5 0 0 SH s 0 [(0, .ref 0), (1, .int v1), (2, .int v2), (3, .int v3), (4, .int v4)] [] := by
  unfold c_X7_pace_0 at hf
  refine X_iload_n C 1 dX7_pace_0 rfl rfl ?_
  refine X_iconst (v := (0:Int32)) C dX7_pace_1 (by decide) ?_
  refine X_iconst (v := (4:Int32)) C dX7_pace_2 (by decide) ?_
  refine X_callSi (As := [.int v1, .int ((0:Int32)), .int ((4:Int32))]) (rest := []) C aw_ok mcs lk_X7_90 (by decide) rfl rfl (Nat.le_of_ble_eq_true rfl) dX7_pace_3 hf (fun r s h => k_X7_within _ _ _ _ (r, s) h) (fun r2 s1 hf => ?_)
  refine X_if_eq (tgt := 20) C dX7_pace_6 (by decide) hf (fun hf => ?_) (fun hf => ?_)
  · refine X_bipush (v := (-2:Int32)) C dX7_pace_20 (by decide) ?_
    exact X_iret C dX7_pace_22 hf Rr
  · refine X_iload_n C 2 dX7_pace_9 rfl rfl ?_
    refine X_iconst (v := (0:Int32)) C dX7_pace_10 (by decide) ?_
    refine X_sipush (v := (1000:Int32)) C dX7_pace_11 (by decide) ?_
    refine X_callSi (As := [.int v2, .int ((0:Int32)), .int ((1000:Int32))]) (rest := []) C aw_ok mcs lk_X7_90 (by decide) rfl rfl (Nat.le_of_ble_eq_true rfl) dX7_pace_14 hf (fun r s h => k_X7_within _ _ _ _ (r, s) h) (fun r4 s3 hf => ?_)
    refine X_if_ne (tgt := 23) C dX7_pace_17 (by decide) hf (fun hf => ?_) (fun hf => ?_)
    · refine X_iload_n C 3 dX7_pace_23 rfl rfl ?_
      refine X_iconst (v := (0:Int32)) C dX7_pace_24 (by decide) ?_
      refine X_sipush (v := (1000:Int32)) C dX7_pace_25 (by decide) ?_
      refine X_callSi (As := [.int v3, .int ((0:Int32)), .int ((1000:Int32))]) (rest := []) C aw_ok mcs lk_X7_90 (by decide) rfl rfl (Nat.le_of_ble_eq_true rfl) dX7_pace_28 hf (fun r s h => k_X7_within _ _ _ _ (r, s) h) (fun r6 s5 hf => ?_)
      refine X_if_eq (tgt := 46) C dX7_pace_31 (by decide) hf (fun hf => ?_) (fun hf => ?_)
      · refine X_bipush (v := (-2:Int32)) C dX7_pace_46 (by decide) ?_
        exact X_iret C dX7_pace_48 hf Rr
      · refine X_iload C 4 dX7_pace_34 rfl ?_
        refine X_iconst (v := (0:Int32)) C dX7_pace_36 (by decide) ?_
        refine X_sipush (v := (1000:Int32)) C dX7_pace_37 (by decide) ?_
        refine X_callSi (As := [.int v4, .int ((0:Int32)), .int ((1000:Int32))]) (rest := []) C aw_ok mcs lk_X7_90 (by decide) rfl rfl (Nat.le_of_ble_eq_true rfl) dX7_pace_40 hf (fun r s h => k_X7_within _ _ _ _ (r, s) h) (fun r8 s7 hf => ?_)
        refine X_if_ne (tgt := 49) C dX7_pace_43 (by decide) hf (fun hf => ?_) (fun hf => ?_)
        · refine X_aload_n C 0 dX7_pace_49 rfl rfl ?_
          refine X_getr C 11 sh_0 nc_7 inM_7 (by decide) (mc wd_73) rfl dX7_pace_50 ?_
          refine X_iload_n C 1 dX7_pace_53 rfl rfl ?_
          refine X_iconst (v := (0:Int32)) C dX7_pace_54 (by decide) ?_
          refine X_iload_n C 2 dX7_pace_55 rfl rfl ?_
          refine X_callVv (As := [.int v1, .int ((0:Int32)), .int v2]) (rest := []) C aw_ok mcs lk_X7_86 sh_27 nc_6 (by decide) rfl rfl (Nat.le_of_ble_eq_true rfl) dX7_pace_56 hf (fun s h => k_X6_set sh_27 sh_28 _ _ _ _ s h) (fun s9 hf => ?_)
          refine X_aload_n C 0 dX7_pace_59 rfl rfl ?_
          refine X_getr C 11 sh_0 nc_7 inM_7 (by decide) (mc wd_73) rfl dX7_pace_60 ?_
          refine X_iload_n C 1 dX7_pace_63 rfl rfl ?_
          refine X_iconst (v := (1:Int32)) C dX7_pace_64 (by decide) ?_
          refine X_iload_n C 3 dX7_pace_65 rfl rfl ?_
          refine X_callVv (As := [.int v1, .int ((1:Int32)), .int v3]) (rest := []) C aw_ok mcs lk_X7_86 sh_27 nc_6 (by decide) rfl rfl (Nat.le_of_ble_eq_true rfl) dX7_pace_66 hf (fun s h => k_X6_set sh_27 sh_28 _ _ _ _ s h) (fun s11 hf => ?_)
          refine X_aload_n C 0 dX7_pace_69 rfl rfl ?_
          refine X_getr C 11 sh_0 nc_7 inM_7 (by decide) (mc wd_73) rfl dX7_pace_70 ?_
          refine X_iload_n C 1 dX7_pace_73 rfl rfl ?_
          refine X_iconst (v := (2:Int32)) C dX7_pace_74 (by decide) ?_
          refine X_iload C 4 dX7_pace_75 rfl ?_
          refine X_callVv (As := [.int v1, .int ((2:Int32)), .int v4]) (rest := []) C aw_ok mcs lk_X7_86 sh_27 nc_6 (by decide) rfl rfl (Nat.le_of_ble_eq_true rfl) dX7_pace_77 hf (fun s h => k_X6_set sh_27 sh_28 _ _ _ _ s h) (fun s13 hf => ?_)
          refine X_iconst (v := (1:Int32)) C dX7_pace_80 (by decide) ?_
          exact X_iret C dX7_pace_81 hf Rr
        · refine X_bipush (v := (-2:Int32)) C dX7_pace_46 (by decide) ?_
          exact X_iret C dX7_pace_48 hf Rr
    · refine X_bipush (v := (-2:Int32)) C dX7_pace_20 (by decide) ?_
      exact X_iret C dX7_pace_22 hf Rr
def f_X7_pace (s : Sg) (v1 : Int32) (v2 : Int32) (v3 : Int32) (v4 : Int32) : Option (Int32 × Sg) := c_X7_pace_0 s v1 v2 v3 v4
theorem k_X7_pace (s : Sg) (v1 : Int32) (v2 : Int32) (v3 : Int32) (v4 : Int32) (o : Int32 × Sg) (hf : f_X7_pace s v1 v2 v3 v4 = some o) : Ctr NM yX7_pace (ws_X7_pace) rm_X7_pace SH s [.ref 0, .int v1, .int v2, .int v3, .int v4] (some (.int o.1)) o.2 :=
  Ctr.of (by decide) rfl (Nat.le_of_ble_eq_true rfl) (fun X C Rr => by show XW NM X 5 0 0 SH s 0 [(0, .ref 0), (1, .int v1), (2, .int v2), (3, .int v3), (4, .int v4)] []; exact w_X7_pace_0 C Rr s v1 v2 v3 v4 hf)
abbrev ws_X7_plan : List Cond := Cond.code yX7_plan cX7_plan 5 (some .int) :: AW
abbrev rm_X7_plan : Room := { frames := 42, cells := 0, slots := 0, locals := 1053 }
def c_X7_plan_0 (N : Nat) (s : Sg) (v1 : Int32) (v2 : Int32) (v3 : Int32) (v4 : Int32) : Option (Int32 × Sg) :=
bd (f_X7_within s v1 ((0:Int32)) ((11:Int32))) (fun r2 s1 => if r2 = 0 then
 some ((-2:Int32), s1)
 else
 bd (f_X7_within s1 v2 ((1:Int32)) ((6:Int32))) (fun r4 s3 => if r4 = 0 then
 some ((-2:Int32), s3)
 else
 bd (f_X7_within s3 v3 ((0:Int32)) ((10000:Int32))) (fun r6 s5 => if r6 = 0 then
 some ((-2:Int32), s5)
 else
 bd (f_X7_within s5 v4 ((0:Int32)) ((10000:Int32))) (fun r8 s7 => if r8 = 0 then
 some ((-2:Int32), s7)
 else
 bdv (f_X3_readMonths N s7 v1 v2) (fun s9 => bd (f_X3_settle N s9 v3 v4) (fun r12 s11 => some (r12, s11)))))))
set_option maxHeartbeats 4000000 in
set_option maxRecDepth 100000 in
theorem w_X7_plan_0 {X : Ctx} {N : Nat} {o : Int32 × Sg} (C : Cx NM X cX7_plan 5 RX7 (ws_X7_plan) (some .int) rm_X7_plan) (Rr : Rx NM X 0 0 (some (.int o.1)) SH o.2) (s : Sg) (v1 : Int32) (v2 : Int32) (v3 : Int32) (v4 : Int32) (hf : c_X7_plan_0 N s v1 v2 v3 v4 = some o) : XW NM X 5 0 0 SH s 0 [(0, .ref 0), (1, .int v1), (2, .int v2), (3, .int v3), (4, .int v4)] [] := by
  unfold c_X7_plan_0 at hf
  refine X_iload_n C 1 dX7_plan_0 rfl rfl ?_
  refine X_iconst (v := (0:Int32)) C dX7_plan_1 (by decide) ?_
  refine X_bipush (v := (11:Int32)) C dX7_plan_2 (by decide) ?_
  refine X_callSi (As := [.int v1, .int ((0:Int32)), .int ((11:Int32))]) (rest := []) C aw_ok mcs lk_X7_90 (by decide) rfl rfl (Nat.le_of_ble_eq_true rfl) dX7_plan_4 hf (fun r s h => k_X7_within _ _ _ _ (r, s) h) (fun r2 s1 hf => ?_)
  refine X_if_eq (tgt := 20) C dX7_plan_7 (by decide) hf (fun hf => ?_) (fun hf => ?_)
  · refine X_bipush (v := (-2:Int32)) C dX7_plan_20 (by decide) ?_
    exact X_iret C dX7_plan_22 hf Rr
  · refine X_iload_n C 2 dX7_plan_10 rfl rfl ?_
    refine X_iconst (v := (1:Int32)) C dX7_plan_11 (by decide) ?_
    refine X_bipush (v := (6:Int32)) C dX7_plan_12 (by decide) ?_
    refine X_callSi (As := [.int v2, .int ((1:Int32)), .int ((6:Int32))]) (rest := []) C aw_ok mcs lk_X7_90 (by decide) rfl rfl (Nat.le_of_ble_eq_true rfl) dX7_plan_14 hf (fun r s h => k_X7_within _ _ _ _ (r, s) h) (fun r4 s3 hf => ?_)
    refine X_if_ne (tgt := 23) C dX7_plan_17 (by decide) hf (fun hf => ?_) (fun hf => ?_)
    · refine X_iload_n C 3 dX7_plan_23 rfl rfl ?_
      refine X_iconst (v := (0:Int32)) C dX7_plan_24 (by decide) ?_
      refine X_sipush (v := (10000:Int32)) C dX7_plan_25 (by decide) ?_
      refine X_callSi (As := [.int v3, .int ((0:Int32)), .int ((10000:Int32))]) (rest := []) C aw_ok mcs lk_X7_90 (by decide) rfl rfl (Nat.le_of_ble_eq_true rfl) dX7_plan_28 hf (fun r s h => k_X7_within _ _ _ _ (r, s) h) (fun r6 s5 hf => ?_)
      refine X_if_eq (tgt := 46) C dX7_plan_31 (by decide) hf (fun hf => ?_) (fun hf => ?_)
      · refine X_bipush (v := (-2:Int32)) C dX7_plan_46 (by decide) ?_
        exact X_iret C dX7_plan_48 hf Rr
      · refine X_iload C 4 dX7_plan_34 rfl ?_
        refine X_iconst (v := (0:Int32)) C dX7_plan_36 (by decide) ?_
        refine X_sipush (v := (10000:Int32)) C dX7_plan_37 (by decide) ?_
        refine X_callSi (As := [.int v4, .int ((0:Int32)), .int ((10000:Int32))]) (rest := []) C aw_ok mcs lk_X7_90 (by decide) rfl rfl (Nat.le_of_ble_eq_true rfl) dX7_plan_40 hf (fun r s h => k_X7_within _ _ _ _ (r, s) h) (fun r8 s7 hf => ?_)
        refine X_if_ne (tgt := 49) C dX7_plan_43 (by decide) hf (fun hf => ?_) (fun hf => ?_)
        · refine X_aload_n C 0 dX7_plan_49 rfl rfl ?_
          refine X_getr C 12 sh_0 nc_7 inM_7 (by decide) (mc wd_74) rfl dX7_plan_50 ?_
          refine X_aload_n C 0 dX7_plan_53 rfl rfl ?_
          refine X_getr C 10 sh_0 nc_7 inM_7 (by decide) (mc wd_72) rfl dX7_plan_54 ?_
          refine X_aload_n C 0 dX7_plan_57 rfl rfl ?_
          refine X_getr C 11 sh_0 nc_7 inM_7 (by decide) (mc wd_73) rfl dX7_plan_58 ?_
          refine X_iload_n C 1 dX7_plan_61 rfl rfl ?_
          refine X_iload_n C 2 dX7_plan_62 rfl rfl ?_
          refine X_callVv (As := [.ref 25, .ref 27, .int v1, .int v2]) (rest := []) C aw_ok mcs lk_X7_208 sh_29 nc_3 (by decide) rfl rfl (Nat.le_of_ble_eq_true rfl) dX7_plan_63 hf (fun s h => k_X3_readMonths _ _ _ s h) (fun s9 hf => ?_)
          refine X_aload_n C 0 dX7_plan_66 rfl rfl ?_
          refine X_getr C 12 sh_0 nc_7 inM_7 (by decide) (mc wd_74) rfl dX7_plan_67 ?_
          refine X_aload_n C 0 dX7_plan_70 rfl rfl ?_
          refine X_getr C 11 sh_0 nc_7 inM_7 (by decide) (mc wd_73) rfl dX7_plan_71 ?_
          refine X_iload_n C 3 dX7_plan_74 rfl rfl ?_
          refine X_iload C 4 dX7_plan_75 rfl ?_
          refine X_callVi (As := [.ref 27, .int v3, .int v4]) (rest := []) C aw_ok mcs lk_X7_212 sh_29 nc_3 (by decide) rfl rfl (Nat.le_of_ble_eq_true rfl) dX7_plan_77 hf (fun r s h => k_X3_settle _ _ _ (r, s) h) (fun r12 s11 hf => ?_)
          exact X_iret C dX7_plan_80 hf Rr
        · refine X_bipush (v := (-2:Int32)) C dX7_plan_46 (by decide) ?_
          exact X_iret C dX7_plan_48 hf Rr
    · refine X_bipush (v := (-2:Int32)) C dX7_plan_20 (by decide) ?_
      exact X_iret C dX7_plan_22 hf Rr
def f_X7_plan (N : Nat) (s : Sg) (v1 : Int32) (v2 : Int32) (v3 : Int32) (v4 : Int32) : Option (Int32 × Sg) := c_X7_plan_0 N s v1 v2 v3 v4
theorem k_X7_plan {N : Nat} (s : Sg) (v1 : Int32) (v2 : Int32) (v3 : Int32) (v4 : Int32) (o : Int32 × Sg) (hf : f_X7_plan N s v1 v2 v3 v4 = some o) : Ctr NM yX7_plan (ws_X7_plan) rm_X7_plan SH s [.ref 0, .int v1, .int v2, .int v3, .int v4] (some (.int o.1)) o.2 :=
  Ctr.of (by decide) rfl (Nat.le_of_ble_eq_true rfl) (fun X C Rr => by show XW NM X 5 0 0 SH s 0 [(0, .ref 0), (1, .int v1), (2, .int v2), (3, .int v3), (4, .int v4)] []; exact w_X7_plan_0 C Rr s v1 v2 v3 v4 hf)
abbrev ws_X7_paceAt : List Cond := Cond.code yX7_paceAt cX7_paceAt 2 (some .int) :: AW
abbrev rm_X7_paceAt : Room := { frames := 1, cells := 0, slots := 0, locals := 22 }
def c_X7_paceAt_0 (s : Sg) (v1 : Int32) : Option (Int32 × Sg) :=
bd (f_X7_within s v1 ((0:Int32)) ((s 29 8) - ((1:Int32)))) (fun r2 s1 => if r2 = 0 then
 some ((-1:Int32), s1)
 else
 gd (vi v1 6) (some (s1 35 v1.toNatClampNeg, s1)))
set_option maxHeartbeats 4000000 in
set_option maxRecDepth 100000 in
theorem w_X7_paceAt_0 {X : Ctx} {o : Int32 × Sg} (C : Cx NM X cX7_paceAt 2 RX7 (ws_X7_paceAt) (some .int) rm_X7_paceAt) (Rr : Rx NM X 0 0 (some (.int o.1)) SH o.2) (s : Sg) (v1 : Int32) (hf : c_X7_paceAt_0 s v1 = some o) : XW NM X 2 0 0 SH s 0 [(0, .ref 0), (1, .int v1)] [] := by
  unfold c_X7_paceAt_0 at hf
  refine X_iload_n C 1 dX7_paceAt_0 rfl rfl ?_
  refine X_iconst (v := (0:Int32)) C dX7_paceAt_1 (by decide) ?_
  refine X_aload_n C 0 dX7_paceAt_2 rfl rfl ?_
  refine X_getr C 12 sh_0 nc_7 inM_7 (by decide) (mc wd_74) rfl dX7_paceAt_3 ?_
  refine X_getiN C 8 sh_29 nc_3 inM_3 (by decide) nf_X7_215 rfl dX7_paceAt_6 ?_
  refine X_iconst (v := (1:Int32)) C dX7_paceAt_9 (by decide) ?_
  refine X_isub C dX7_paceAt_10 ?_
  refine X_callSi (As := [.int v1, .int ((0:Int32)), .int ((s 29 8) - ((1:Int32)))]) (rest := []) C aw_ok mcs lk_X7_90 (by decide) rfl rfl (Nat.le_of_ble_eq_true rfl) dX7_paceAt_11 hf (fun r s h => k_X7_within _ _ _ _ (r, s) h) (fun r2 s1 hf => ?_)
  refine X_if_eq (tgt := 29) C dX7_paceAt_14 (by decide) hf (fun hf => ?_) (fun hf => ?_)
  · refine X_iconst (v := (-1:Int32)) C dX7_paceAt_29 (by decide) ?_
    exact X_iret C dX7_paceAt_30 hf Rr
  · refine X_aload_n C 0 dX7_paceAt_17 rfl rfl ?_
    refine X_getr C 12 sh_0 nc_7 inM_7 (by decide) (mc wd_74) rfl dX7_paceAt_18 ?_
    refine X_getrN C 5 sh_29 nc_3 inM_3 (by decide) nf_X7_218 rfl dX7_paceAt_21 ?_
    refine X_iload_n C 1 dX7_paceAt_24 rfl rfl ?_
    refine X_iald C sh_35 dX7_paceAt_25 hf (fun hf => ?_)
    refine X_goto (tgt := 30) C dX7_paceAt_26 (by decide) ?_
    exact X_iret C dX7_paceAt_30 hf Rr
def f_X7_paceAt (s : Sg) (v1 : Int32) : Option (Int32 × Sg) := c_X7_paceAt_0 s v1
theorem k_X7_paceAt (s : Sg) (v1 : Int32) (o : Int32 × Sg) (hf : f_X7_paceAt s v1 = some o) : Ctr NM yX7_paceAt (ws_X7_paceAt) rm_X7_paceAt SH s [.ref 0, .int v1] (some (.int o.1)) o.2 :=
  Ctr.of (by decide) rfl (Nat.le_of_ble_eq_true rfl) (fun X C Rr => by show XW NM X 2 0 0 SH s 0 [(0, .ref 0), (1, .int v1)] []; exact w_X7_paceAt_0 C Rr s v1 hf)
abbrev ws_X7_count : List Cond := Cond.code yX7_count cX7_count 2 (some .int) :: AW
abbrev rm_X7_count : Room := { frames := 0, cells := 0, slots := 0, locals := 0 }
def c_X7_count_0 (s : Sg) (v1 : Int32) : Option (Int32 × Sg) :=
if v1 = (0:Int32) then
 some (s 4 3, s)
 else if v1 = (1:Int32) then
 some (s 8 3, s)
 else if v1 = (2:Int32) then
 some (s 13 3, s)
 else if v1 = (3:Int32) then
 some (s 15 3, s)
 else if v1 = (4:Int32) then
 some (s 0 13, s)
 else if v1 = (5:Int32) then
 some (s 0 14, s)
 else some ((-2:Int32), s)
set_option maxHeartbeats 4000000 in
set_option maxRecDepth 100000 in
theorem w_X7_count_0 {X : Ctx} {o : Int32 × Sg} (C : Cx NM X cX7_count 2 RX7 (ws_X7_count) (some .int) rm_X7_count) (Rr : Rx NM X 0 0 (some (.int o.1)) SH o.2) (s : Sg) (v1 : Int32) (hf : c_X7_count_0 s v1 = some o) : XW NM X 2 0 0 SH s 0 [(0, .ref 0), (1, .int v1)] [] := by
  unfold c_X7_count_0 at hf
  refine X_iload_n C 1 dX7_count_0 rfl rfl ?_
  refine X_sw (k0 := (0:Int32)) hf (fun e hf => ?_) (fun n0 hf => ?_)
  · refine X_tin (tgt := 40) C dX7_count_1 (by rw [e]; decide) (by rw [e]; decide) (by rw [e]; rfl) (by decide) ?_
    refine X_aload_n C 0 dX7_count_40 rfl rfl ?_
    refine X_getr C 2 sh_0 nc_7 inM_7 (by decide) (mc wd_59) rfl dX7_count_41 ?_
    refine X_getrN C 0 sh_3 nc_0 inM_0 (by decide) nf_X7_98 rfl dX7_count_44 ?_
    refine X_getiN C 3 sh_4 nc_6 inM_6 (by decide) nf_X7_109 rfl dX7_count_47 ?_
    exact X_iret C dX7_count_50 hf Rr
  refine X_sw (k0 := (1:Int32)) hf (fun e hf => ?_) (fun n1 hf => ?_)
  · refine X_tin (tgt := 51) C dX7_count_1 (by rw [e]; decide) (by rw [e]; decide) (by rw [e]; rfl) (by decide) ?_
    refine X_aload_n C 0 dX7_count_51 rfl rfl ?_
    refine X_getr C 5 sh_0 nc_7 inM_7 (by decide) (mc wd_65) rfl dX7_count_52 ?_
    refine X_getiN C 3 sh_8 nc_6 inM_6 (by decide) nf_X7_109 rfl dX7_count_55 ?_
    exact X_iret C dX7_count_58 hf Rr
  refine X_sw (k0 := (2:Int32)) hf (fun e hf => ?_) (fun n2 hf => ?_)
  · refine X_tin (tgt := 59) C dX7_count_1 (by rw [e]; decide) (by rw [e]; decide) (by rw [e]; rfl) (by decide) ?_
    refine X_aload_n C 0 dX7_count_59 rfl rfl ?_
    refine X_getr C 7 sh_0 nc_7 inM_7 (by decide) (mc wd_63) rfl dX7_count_60 ?_
    refine X_getiN C 3 sh_13 nc_6 inM_6 (by decide) nf_X7_109 rfl dX7_count_63 ?_
    exact X_iret C dX7_count_66 hf Rr
  refine X_sw (k0 := (3:Int32)) hf (fun e hf => ?_) (fun n3 hf => ?_)
  · refine X_tin (tgt := 67) C dX7_count_1 (by rw [e]; decide) (by rw [e]; decide) (by rw [e]; rfl) (by decide) ?_
    refine X_aload_n C 0 dX7_count_67 rfl rfl ?_
    refine X_getr C 8 sh_0 nc_7 inM_7 (by decide) (mc wd_68) rfl dX7_count_68 ?_
    refine X_getiN C 3 sh_15 nc_6 inM_6 (by decide) nf_X7_109 rfl dX7_count_71 ?_
    exact X_iret C dX7_count_74 hf Rr
  refine X_sw (k0 := (4:Int32)) hf (fun e hf => ?_) (fun n4 hf => ?_)
  · refine X_tin (tgt := 75) C dX7_count_1 (by rw [e]; decide) (by rw [e]; decide) (by rw [e]; rfl) (by decide) ?_
    refine X_aload_n C 0 dX7_count_75 rfl rfl ?_
    refine X_geti C 13 sh_0 nc_7 inM_7 (by decide) (mc wd_70) rfl dX7_count_76 ?_
    exact X_iret C dX7_count_79 hf Rr
  refine X_sw (k0 := (5:Int32)) hf (fun e hf => ?_) (fun n5 hf => ?_)
  · refine X_tin (tgt := 80) C dX7_count_1 (by rw [e]; decide) (by rw [e]; decide) (by rw [e]; rfl) (by decide) ?_
    refine X_aload_n C 0 dX7_count_80 rfl rfl ?_
    refine X_geti C 14 sh_0 nc_7 inM_7 (by decide) (mc wd_71) rfl dX7_count_81 ?_
    exact X_iret C dX7_count_84 hf Rr
  refine X_tout (tgt := 85) C dX7_count_1 (by have := lv_neT n0 (show (0:Int32).toInt = 0 from by decide); have := lv_neT n1 (show (1:Int32).toInt = 1 from by decide); have := lv_neT n2 (show (2:Int32).toInt = 2 from by decide); have := lv_neT n3 (show (3:Int32).toInt = 3 from by decide); have := lv_neT n4 (show (4:Int32).toInt = 4 from by decide); have := lv_neT n5 (show (5:Int32).toInt = 5 from by decide); omega) (by decide) ?_
  refine X_bipush (v := (-2:Int32)) C dX7_count_85 (by decide) ?_
  exact X_iret C dX7_count_87 hf Rr
def f_X7_count (s : Sg) (v1 : Int32) : Option (Int32 × Sg) := c_X7_count_0 s v1
theorem k_X7_count (s : Sg) (v1 : Int32) (o : Int32 × Sg) (hf : f_X7_count s v1 = some o) : Ctr NM yX7_count (ws_X7_count) rm_X7_count SH s [.ref 0, .int v1] (some (.int o.1)) o.2 :=
  Ctr.of (by decide) rfl (Nat.le_of_ble_eq_true rfl) (fun X C Rr => by show XW NM X 2 0 0 SH s 0 [(0, .ref 0), (1, .int v1)] []; exact w_X7_count_0 C Rr s v1 hf)
abbrev ws_X7_digest : List Cond := Cond.code yX7_digest cX7_digest 4 (some .long) :: AW
abbrev rm_X7_digest : Room := { frames := 2, cells := 0, slots := 0, locals := 41 }
def c_X7_digest_109 (N : Nat) (K109 : Sg → Int64 → Int32 → Option (Int64 × Sg)) (s : Sg) (v1 : Int64) (v3 : Int32) : Option (Int64 × Sg) :=
if ((3:Int32)) ≤ v3 then
 some (v1, s)
 else
 gd (vi v3 3) (lt_ ((((31:Int64)) * v1) + ((s 11 v3.toNatClampNeg).toInt64)) (fun x1 => K109 s x1 (v3 + (1:Int32))))
set_option maxHeartbeats 4000000 in
set_option maxRecDepth 100000 in
theorem w_X7_digest_109 {X : Ctx} {N : Nat} {o : Int64 × Sg} (C : Cx NM X cX7_digest 4 RX7 (ws_X7_digest) (some .long) rm_X7_digest) (Rr : Rx NM X 0 0 (some (.long o.1)) SH o.2) {K109 : Sg → Int64 → Int32 → Option (Int64 × Sg)} (hK109 : ∀ (s : Sg) (v1 : Int64) (v3 : Int32), K109 s v1 v3 = some o → XW NM X 4 0 0 SH s 109 [(0, .ref 0), (1, .long v1), (3, .int v3)] []) (s : Sg) (v1 : Int64) (v3 : Int32) (hf : c_X7_digest_109 N K109 s v1 v3 = some o) : XW NM X 4 0 0 SH s 109 [(0, .ref 0), (1, .long v1), (3, .int v3)] [] := by
  unfold c_X7_digest_109 at hf
  refine X_iload_n C 2 dX7_digest_109 rfl rfl ?_
  refine X_iconst (v := (3:Int32)) C dX7_digest_110 (by decide) ?_
  refine X_icmp_ge (tgt := 137) C dX7_digest_111 (by decide) hf (fun hf => ?_) (fun hf => ?_)
  · refine X_lload_n C 1 dX7_digest_137 rfl rfl ?_
    exact X_lret C dX7_digest_138 hf Rr
  · refine X_ldc2 (v := (31:Int64)) C (mc wd_76) dX7_digest_114 ?_
    refine X_lload_n C 1 dX7_digest_117 rfl rfl ?_
    refine X_lmul C dX7_digest_118 ?_
    refine X_aload_n C 0 dX7_digest_119 rfl rfl ?_
    refine X_getr C 6 sh_0 nc_7 inM_7 (by decide) (mc wd_64) rfl dX7_digest_120 ?_
    refine X_getrN C 0 sh_10 nc_5 inM_5 (by decide) nf_X7_180 rfl dX7_digest_123 ?_
    refine X_iload_n C 2 dX7_digest_126 rfl rfl ?_
    refine X_iald C sh_11 dX7_digest_127 hf (fun hf => ?_)
    refine X_i2l C dX7_digest_128 ?_
    refine X_ladd C dX7_digest_129 ?_
    refine X_nml hf (fun x1 hf => ?_)
    refine X_lstore_n (L' := [(0, .ref 0), (1, .long x1), (3, .int v3)]) C [1, 0, 2] dX7_digest_130 rfl (by decide) rfl ?_
    refine X_iinc (v := (1:Int32)) (L' := [(0, .ref 0), (1, .long x1), (3, .int (v3 + (1:Int32)))]) C 2 [1, 2, 0] dX7_digest_131 rfl (by decide) (by decide) rfl ?_
    refine X_goto (tgt := 109) C dX7_digest_134 (by decide) ?_
    exact hK109 _ _ _ hf
def b_X7_digest_109 (N : Nat) : Nat → Sg → Int64 → Int32 → Option (Int64 × Sg)
  | 0, _, _, _ => none
  | j + 1, s, v1, v3 => c_X7_digest_109 N (b_X7_digest_109 N j) s v1 v3
theorem h_X7_digest_109 {X : Ctx} {N : Nat} {o : Int64 × Sg} (C : Cx NM X cX7_digest 4 RX7 (ws_X7_digest) (some .long) rm_X7_digest) (Rr : Rx NM X 0 0 (some (.long o.1)) SH o.2) : ∀ (j : Nat) (s : Sg) (v1 : Int64) (v3 : Int32), b_X7_digest_109 N j s v1 v3 = some o → XW NM X 4 0 0 SH s 109 [(0, .ref 0), (1, .long v1), (3, .int v3)] [] := by
  intro j
  induction j with
  | zero => intro s v1 v3 hf; cases (show none = some o from hf)
  | succ j ih => intro s v1 v3 hf; exact w_X7_digest_109 C Rr ih s v1 v3 hf
def c_X7_digest_86 (N : Nat) (s : Sg) (v1 : Int64) : Option (Int64 × Sg) :=
bdl (f_X6_mixInto 4 2800 N s v1) (fun r2 s1 => bdl (f_X6_mixInto 8 360 N s1 r2) (fun r4 s3 => b_X7_digest_109 N N s3 r4 ((0:Int32))))
set_option maxHeartbeats 4000000 in
set_option maxRecDepth 100000 in
theorem w_X7_digest_86 {X : Ctx} {N : Nat} {o : Int64 × Sg} (C : Cx NM X cX7_digest 4 RX7 (ws_X7_digest) (some .long) rm_X7_digest) (Rr : Rx NM X 0 0 (some (.long o.1)) SH o.2) (s : Sg) (v1 : Int64) (hf : c_X7_digest_86 N s v1 = some o) : XW NM X 4 0 0 SH s 86 [(0, .ref 0), (1, .long v1)] [] := by
  unfold c_X7_digest_86 at hf
  refine X_aload_n C 0 dX7_digest_86 rfl rfl ?_
  refine X_getr C 2 sh_0 nc_7 inM_7 (by decide) (mc wd_59) rfl dX7_digest_87 ?_
  refine X_getrN C 0 sh_3 nc_0 inM_0 (by decide) nf_X7_98 rfl dX7_digest_90 ?_
  refine X_lload_n C 1 dX7_digest_93 rfl rfl ?_
  refine X_callVl (As := [.long v1]) (rest := []) C aw_ok mcs lk_X7_229 sh_4 nc_6 (by decide) rfl rfl (Nat.le_of_ble_eq_true rfl) dX7_digest_94 hf (fun r s h => k_X6_mixInto sh_4 sh_5 _ _ (r, s) h) (fun r2 s1 hf => ?_)
  refine X_lstore_n (L' := [(0, .ref 0), (1, .long r2)]) C [1, 0] dX7_digest_97 rfl (by decide) rfl ?_
  refine X_aload_n C 0 dX7_digest_98 rfl rfl ?_
  refine X_getr C 5 sh_0 nc_7 inM_7 (by decide) (mc wd_65) rfl dX7_digest_99 ?_
  refine X_lload_n C 1 dX7_digest_102 rfl rfl ?_
  refine X_callVl (As := [.long r2]) (rest := []) C aw_ok mcs lk_X7_229 sh_8 nc_6 (by decide) rfl rfl (Nat.le_of_ble_eq_true rfl) dX7_digest_103 hf (fun r s h => k_X6_mixInto sh_8 sh_9 _ _ (r, s) h) (fun r4 s3 hf => ?_)
  refine X_lstore_n (L' := [(0, .ref 0), (1, .long r4)]) C [1, 0] dX7_digest_106 rfl (by decide) rfl ?_
  refine X_iconst (v := (0:Int32)) C dX7_digest_107 (by decide) ?_
  refine X_istore_n (L' := [(0, .ref 0), (1, .long r4), (3, .int ((0:Int32)))]) C [1, 2, 0] dX7_digest_108 rfl (by decide) rfl ?_
  exact h_X7_digest_109 C Rr _ _ _ _ hf
def c_X7_digest_60 (N : Nat) (K60 : Sg → Int64 → Int32 → Option (Int64 × Sg)) (s : Sg) (v1 : Int64) (v3 : Int32) : Option (Int64 × Sg) :=
if ((6:Int32)) ≤ v3 then
 c_X7_digest_86 N s v1
 else
 gd (vi v3 6) (lt_ ((((31:Int64)) * v1) + ((s 1 v3.toNatClampNeg).toInt64)) (fun x1 => K60 s x1 (v3 + (1:Int32))))
set_option maxHeartbeats 4000000 in
set_option maxRecDepth 100000 in
theorem w_X7_digest_60 {X : Ctx} {N : Nat} {o : Int64 × Sg} (C : Cx NM X cX7_digest 4 RX7 (ws_X7_digest) (some .long) rm_X7_digest) (Rr : Rx NM X 0 0 (some (.long o.1)) SH o.2) {K60 : Sg → Int64 → Int32 → Option (Int64 × Sg)} (hK60 : ∀ (s : Sg) (v1 : Int64) (v3 : Int32), K60 s v1 v3 = some o → XW NM X 4 0 0 SH s 60 [(0, .ref 0), (1, .long v1), (3, .int v3)] []) (s : Sg) (v1 : Int64) (v3 : Int32) (hf : c_X7_digest_60 N K60 s v1 v3 = some o) : XW NM X 4 0 0 SH s 60 [(0, .ref 0), (1, .long v1), (3, .int v3)] [] := by
  unfold c_X7_digest_60 at hf
  refine X_iload_n C 2 dX7_digest_60 rfl rfl ?_
  refine X_bipush (v := (6:Int32)) C dX7_digest_61 (by decide) ?_
  refine X_icmp_ge (tgt := 86) C dX7_digest_63 (by decide) hf (fun hf => ?_) (fun hf => ?_)
  · refine X_loc (L' := [(0, .ref 0), (1, .long v1)]) [0, 1] rfl ?_
    exact w_X7_digest_86 C Rr _ _ hf
  · refine X_ldc2 (v := (31:Int64)) C (mc wd_76) dX7_digest_66 ?_
    refine X_lload_n C 1 dX7_digest_69 rfl rfl ?_
    refine X_lmul C dX7_digest_70 ?_
    refine X_aload_n C 0 dX7_digest_71 rfl rfl ?_
    refine X_getr C 0 sh_0 nc_7 inM_7 (by decide) (mc wd_57) rfl dX7_digest_72 ?_
    refine X_iload_n C 2 dX7_digest_75 rfl rfl ?_
    refine X_iald C sh_1 dX7_digest_76 hf (fun hf => ?_)
    refine X_i2l C dX7_digest_77 ?_
    refine X_ladd C dX7_digest_78 ?_
    refine X_nml hf (fun x1 hf => ?_)
    refine X_lstore_n (L' := [(0, .ref 0), (1, .long x1), (3, .int v3)]) C [1, 0, 2] dX7_digest_79 rfl (by decide) rfl ?_
    refine X_iinc (v := (1:Int32)) (L' := [(0, .ref 0), (1, .long x1), (3, .int (v3 + (1:Int32)))]) C 2 [1, 2, 0] dX7_digest_80 rfl (by decide) (by decide) rfl ?_
    refine X_goto (tgt := 60) C dX7_digest_83 (by decide) ?_
    exact hK60 _ _ _ hf
def b_X7_digest_60 (N : Nat) : Nat → Sg → Int64 → Int32 → Option (Int64 × Sg)
  | 0, _, _, _ => none
  | j + 1, s, v1, v3 => c_X7_digest_60 N (b_X7_digest_60 N j) s v1 v3
theorem h_X7_digest_60 {X : Ctx} {N : Nat} {o : Int64 × Sg} (C : Cx NM X cX7_digest 4 RX7 (ws_X7_digest) (some .long) rm_X7_digest) (Rr : Rx NM X 0 0 (some (.long o.1)) SH o.2) : ∀ (j : Nat) (s : Sg) (v1 : Int64) (v3 : Int32), b_X7_digest_60 N j s v1 v3 = some o → XW NM X 4 0 0 SH s 60 [(0, .ref 0), (1, .long v1), (3, .int v3)] [] := by
  intro j
  induction j with
  | zero => intro s v1 v3 hf; cases (show none = some o from hf)
  | succ j ih => intro s v1 v3 hf; exact w_X7_digest_60 C Rr ih s v1 v3 hf
def c_X7_digest_58 (N : Nat) (s : Sg) (v1 : Int64) : Option (Int64 × Sg) :=
b_X7_digest_60 N N s v1 ((0:Int32))
set_option maxHeartbeats 4000000 in
set_option maxRecDepth 100000 in
theorem w_X7_digest_58 {X : Ctx} {N : Nat} {o : Int64 × Sg} (C : Cx NM X cX7_digest 4 RX7 (ws_X7_digest) (some .long) rm_X7_digest) (Rr : Rx NM X 0 0 (some (.long o.1)) SH o.2) (s : Sg) (v1 : Int64) (hf : c_X7_digest_58 N s v1 = some o) : XW NM X 4 0 0 SH s 58 [(0, .ref 0), (1, .long v1)] [] := by
  unfold c_X7_digest_58 at hf
  refine X_iconst (v := (0:Int32)) C dX7_digest_58 (by decide) ?_
  refine X_istore_n (L' := [(0, .ref 0), (1, .long v1), (3, .int ((0:Int32)))]) C [1, 2, 0] dX7_digest_59 rfl (by decide) rfl ?_
  exact h_X7_digest_60 C Rr _ _ _ _ hf
def c_X7_digest_33 (N : Nat) (K33 : Sg → Int64 → Int32 → Option (Int64 × Sg)) (s : Sg) (v1 : Int64) (v3 : Int32) : Option (Int64 × Sg) :=
if ((12:Int32)) ≤ v3 then
 c_X7_digest_58 N s v1
 else
 bd (f_X7_about s v3) (fun r2 s1 => lt_ ((((31:Int64)) * v1) + r2.toInt64) (fun x3 => K33 s1 x3 (v3 + (1:Int32))))
set_option maxHeartbeats 4000000 in
set_option maxRecDepth 100000 in
theorem w_X7_digest_33 {X : Ctx} {N : Nat} {o : Int64 × Sg} (C : Cx NM X cX7_digest 4 RX7 (ws_X7_digest) (some .long) rm_X7_digest) (Rr : Rx NM X 0 0 (some (.long o.1)) SH o.2) {K33 : Sg → Int64 → Int32 → Option (Int64 × Sg)} (hK33 : ∀ (s : Sg) (v1 : Int64) (v3 : Int32), K33 s v1 v3 = some o → XW NM X 4 0 0 SH s 33 [(0, .ref 0), (1, .long v1), (3, .int v3)] []) (s : Sg) (v1 : Int64) (v3 : Int32) (hf : c_X7_digest_33 N K33 s v1 v3 = some o) : XW NM X 4 0 0 SH s 33 [(0, .ref 0), (1, .long v1), (3, .int v3)] [] := by
  unfold c_X7_digest_33 at hf
  refine X_iload_n C 2 dX7_digest_33 rfl rfl ?_
  refine X_bipush (v := (12:Int32)) C dX7_digest_34 (by decide) ?_
  refine X_icmp_ge (tgt := 58) C dX7_digest_36 (by decide) hf (fun hf => ?_) (fun hf => ?_)
  · refine X_loc (L' := [(0, .ref 0), (1, .long v1)]) [0, 1] rfl ?_
    exact w_X7_digest_58 C Rr _ _ hf
  · refine X_ldc2 (v := (31:Int64)) C (mc wd_76) dX7_digest_39 ?_
    refine X_lload_n C 1 dX7_digest_42 rfl rfl ?_
    refine X_lmul C dX7_digest_43 ?_
    refine X_aload_n C 0 dX7_digest_44 rfl rfl ?_
    refine X_iload_n C 2 dX7_digest_45 rfl rfl ?_
    refine X_callVi (As := [.int v3]) (rest := [.long (((31:Int64)) * v1)]) C aw_ok mcs lk_X7_226 sh_0 nc_7 (by decide) rfl rfl (Nat.le_of_ble_eq_true rfl) dX7_digest_46 hf (fun r s h => k_X7_about _ _ (r, s) h) (fun r2 s1 hf => ?_)
    refine X_i2l C dX7_digest_49 ?_
    refine X_ladd C dX7_digest_50 ?_
    refine X_nml hf (fun x3 hf => ?_)
    refine X_lstore_n (L' := [(0, .ref 0), (1, .long x3), (3, .int v3)]) C [1, 0, 2] dX7_digest_51 rfl (by decide) rfl ?_
    refine X_iinc (v := (1:Int32)) (L' := [(0, .ref 0), (1, .long x3), (3, .int (v3 + (1:Int32)))]) C 2 [1, 2, 0] dX7_digest_52 rfl (by decide) (by decide) rfl ?_
    refine X_goto (tgt := 33) C dX7_digest_55 (by decide) ?_
    exact hK33 _ _ _ hf
def b_X7_digest_33 (N : Nat) : Nat → Sg → Int64 → Int32 → Option (Int64 × Sg)
  | 0, _, _, _ => none
  | j + 1, s, v1, v3 => c_X7_digest_33 N (b_X7_digest_33 N j) s v1 v3
theorem h_X7_digest_33 {X : Ctx} {N : Nat} {o : Int64 × Sg} (C : Cx NM X cX7_digest 4 RX7 (ws_X7_digest) (some .long) rm_X7_digest) (Rr : Rx NM X 0 0 (some (.long o.1)) SH o.2) : ∀ (j : Nat) (s : Sg) (v1 : Int64) (v3 : Int32), b_X7_digest_33 N j s v1 v3 = some o → XW NM X 4 0 0 SH s 33 [(0, .ref 0), (1, .long v1), (3, .int v3)] [] := by
  intro j
  induction j with
  | zero => intro s v1 v3 hf; cases (show none = some o from hf)
  | succ j ih => intro s v1 v3 hf; exact w_X7_digest_33 C Rr ih s v1 v3 hf
def c_X7_digest_31 (N : Nat) (s : Sg) (v1 : Int64) : Option (Int64 × Sg) :=
b_X7_digest_33 N N s v1 ((0:Int32))
set_option maxHeartbeats 4000000 in
set_option maxRecDepth 100000 in
theorem w_X7_digest_31 {X : Ctx} {N : Nat} {o : Int64 × Sg} (C : Cx NM X cX7_digest 4 RX7 (ws_X7_digest) (some .long) rm_X7_digest) (Rr : Rx NM X 0 0 (some (.long o.1)) SH o.2) (s : Sg) (v1 : Int64) (hf : c_X7_digest_31 N s v1 = some o) : XW NM X 4 0 0 SH s 31 [(0, .ref 0), (1, .long v1)] [] := by
  unfold c_X7_digest_31 at hf
  refine X_iconst (v := (0:Int32)) C dX7_digest_31 (by decide) ?_
  refine X_istore_n (L' := [(0, .ref 0), (1, .long v1), (3, .int ((0:Int32)))]) C [1, 2, 0] dX7_digest_32 rfl (by decide) rfl ?_
  exact h_X7_digest_33 C Rr _ _ _ _ hf
def c_X7_digest_6 (N : Nat) (K6 : Sg → Int64 → Int32 → Option (Int64 × Sg)) (s : Sg) (v1 : Int64) (v3 : Int32) : Option (Int64 × Sg) :=
if ((6:Int32)) ≤ v3 then
 c_X7_digest_31 N s v1
 else
 bd (f_X7_count s v3) (fun r2 s1 => lt_ ((((31:Int64)) * v1) + r2.toInt64) (fun x3 => K6 s1 x3 (v3 + (1:Int32))))
set_option maxHeartbeats 4000000 in
set_option maxRecDepth 100000 in
theorem w_X7_digest_6 {X : Ctx} {N : Nat} {o : Int64 × Sg} (C : Cx NM X cX7_digest 4 RX7 (ws_X7_digest) (some .long) rm_X7_digest) (Rr : Rx NM X 0 0 (some (.long o.1)) SH o.2) {K6 : Sg → Int64 → Int32 → Option (Int64 × Sg)} (hK6 : ∀ (s : Sg) (v1 : Int64) (v3 : Int32), K6 s v1 v3 = some o → XW NM X 4 0 0 SH s 6 [(0, .ref 0), (1, .long v1), (3, .int v3)] []) (s : Sg) (v1 : Int64) (v3 : Int32) (hf : c_X7_digest_6 N K6 s v1 v3 = some o) : XW NM X 4 0 0 SH s 6 [(0, .ref 0), (1, .long v1), (3, .int v3)] [] := by
  unfold c_X7_digest_6 at hf
  refine X_iload_n C 2 dX7_digest_6 rfl rfl ?_
  refine X_bipush (v := (6:Int32)) C dX7_digest_7 (by decide) ?_
  refine X_icmp_ge (tgt := 31) C dX7_digest_9 (by decide) hf (fun hf => ?_) (fun hf => ?_)
  · refine X_loc (L' := [(0, .ref 0), (1, .long v1)]) [0, 1] rfl ?_
    exact w_X7_digest_31 C Rr _ _ hf
  · refine X_ldc2 (v := (31:Int64)) C (mc wd_76) dX7_digest_12 ?_
    refine X_lload_n C 1 dX7_digest_15 rfl rfl ?_
    refine X_lmul C dX7_digest_16 ?_
    refine X_aload_n C 0 dX7_digest_17 rfl rfl ?_
    refine X_iload_n C 2 dX7_digest_18 rfl rfl ?_
    refine X_callVi (As := [.int v3]) (rest := [.long (((31:Int64)) * v1)]) C aw_ok mcs lk_X7_223 sh_0 nc_7 (by decide) rfl rfl (Nat.le_of_ble_eq_true rfl) dX7_digest_19 hf (fun r s h => k_X7_count _ _ (r, s) h) (fun r2 s1 hf => ?_)
    refine X_i2l C dX7_digest_22 ?_
    refine X_ladd C dX7_digest_23 ?_
    refine X_nml hf (fun x3 hf => ?_)
    refine X_lstore_n (L' := [(0, .ref 0), (1, .long x3), (3, .int v3)]) C [1, 0, 2] dX7_digest_24 rfl (by decide) rfl ?_
    refine X_iinc (v := (1:Int32)) (L' := [(0, .ref 0), (1, .long x3), (3, .int (v3 + (1:Int32)))]) C 2 [1, 2, 0] dX7_digest_25 rfl (by decide) (by decide) rfl ?_
    refine X_goto (tgt := 6) C dX7_digest_28 (by decide) ?_
    exact hK6 _ _ _ hf
def b_X7_digest_6 (N : Nat) : Nat → Sg → Int64 → Int32 → Option (Int64 × Sg)
  | 0, _, _, _ => none
  | j + 1, s, v1, v3 => c_X7_digest_6 N (b_X7_digest_6 N j) s v1 v3
theorem h_X7_digest_6 {X : Ctx} {N : Nat} {o : Int64 × Sg} (C : Cx NM X cX7_digest 4 RX7 (ws_X7_digest) (some .long) rm_X7_digest) (Rr : Rx NM X 0 0 (some (.long o.1)) SH o.2) : ∀ (j : Nat) (s : Sg) (v1 : Int64) (v3 : Int32), b_X7_digest_6 N j s v1 v3 = some o → XW NM X 4 0 0 SH s 6 [(0, .ref 0), (1, .long v1), (3, .int v3)] [] := by
  intro j
  induction j with
  | zero => intro s v1 v3 hf; cases (show none = some o from hf)
  | succ j ih => intro s v1 v3 hf; exact w_X7_digest_6 C Rr ih s v1 v3 hf
def c_X7_digest_0 (N : Nat) (s : Sg) : Option (Int64 × Sg) :=
b_X7_digest_6 N N s ((199:Int64)) ((0:Int32))
set_option maxHeartbeats 4000000 in
set_option maxRecDepth 100000 in
theorem w_X7_digest_0 {X : Ctx} {N : Nat} {o : Int64 × Sg} (C : Cx NM X cX7_digest 4 RX7 (ws_X7_digest) (some .long) rm_X7_digest) (Rr : Rx NM X 0 0 (some (.long o.1)) SH o.2) (s : Sg) (hf : c_X7_digest_0 N s = some o) : XW NM X 4 0 0 SH s 0 [(0, .ref 0)] [] := by
  unfold c_X7_digest_0 at hf
  refine X_ldc2 (v := (199:Int64)) C (mc wd_75) dX7_digest_0 ?_
  refine X_lstore_n (L' := [(0, .ref 0), (1, .long ((199:Int64)))]) C [1, 0] dX7_digest_3 rfl (by decide) rfl ?_
  refine X_iconst (v := (0:Int32)) C dX7_digest_4 (by decide) ?_
  refine X_istore_n (L' := [(0, .ref 0), (1, .long ((199:Int64))), (3, .int ((0:Int32)))]) C [1, 2, 0] dX7_digest_5 rfl (by decide) rfl ?_
  exact h_X7_digest_6 C Rr _ _ _ _ hf
def f_X7_digest (N : Nat) (s : Sg) : Option (Int64 × Sg) := c_X7_digest_0 N s
theorem k_X7_digest {N : Nat} (s : Sg) (o : Int64 × Sg) (hf : f_X7_digest N s = some o) : Ctr NM yX7_digest (ws_X7_digest) rm_X7_digest SH s [.ref 0] (some (.long o.1)) o.2 :=
  Ctr.of (by decide) rfl (Nat.le_of_ble_eq_true rfl) (fun X C Rr => by show XW NM X 4 0 0 SH s 0 [(0, .ref 0)] []; exact w_X7_digest_0 C Rr s hf)

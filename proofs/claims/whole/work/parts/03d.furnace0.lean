abbrev ws_X1_sortOf : List Cond := Cond.code yX1_sortOf cX1_sortOf 4 (some .int) :: AW
abbrev rm_X1_sortOf : Room := { frames := 0, cells := 0, slots := 0, locals := 0 }
def c_X1_sortOf_25 (s : Sg) (v3 : Int32) : Option (Int32 × Sg) :=
if (s 7 1) < ((700:Int32)) then
 some (v3, s)
 else
 some (v3 + (1:Int32), s)
set_option maxHeartbeats 4000000 in
set_option maxRecDepth 100000 in
theorem w_X1_sortOf_25 {X : Ctx} {o : Int32 × Sg} (C : Cx NM X cX1_sortOf 4 RX1 (ws_X1_sortOf) (some .int) rm_X1_sortOf) (Rr : Rx NM X 0 0 (some (.int o.1)) SH o.2) (s : Sg) (v3 : Int32) (hf : c_X1_sortOf_25 s v3 = some o) : XW NM X 4 0 0 SH s 25 [(0, .ref 7), (3, .int v3)] [] := by
  unfold c_X1_sortOf_25 at hf
  refine X_aload_n C 0 dX1_sortOf_25 rfl rfl ?_
  refine X_geti C 1 sh_7 nc_1 inM_1 (by decide) (mc wd_22) rfl dX1_sortOf_26 ?_
  refine X_sipush (v := (700:Int32)) C dX1_sortOf_29 (by decide) ?_
  refine X_icmp_lt (tgt := 38) C dX1_sortOf_32 (by decide) hf (fun hf => ?_) (fun hf => ?_)
  · refine X_iload_n C 1 dX1_sortOf_38 rfl rfl ?_
    exact X_iret C dX1_sortOf_39 hf Rr
  · refine X_iinc (v := (1:Int32)) (L' := [(0, .ref 7), (3, .int (v3 + (1:Int32)))]) C 1 [1, 0] dX1_sortOf_35 rfl (by decide) (by decide) rfl ?_
    refine X_iload_n C 1 dX1_sortOf_38 rfl rfl ?_
    exact X_iret C dX1_sortOf_39 hf Rr
def c_X1_sortOf_12 (s : Sg) (v3 : Int32) : Option (Int32 × Sg) :=
if (s 7 1) < ((400:Int32)) then
 c_X1_sortOf_25 s v3
 else
 c_X1_sortOf_25 s (v3 + (1:Int32))
set_option maxHeartbeats 4000000 in
set_option maxRecDepth 100000 in
theorem w_X1_sortOf_12 {X : Ctx} {o : Int32 × Sg} (C : Cx NM X cX1_sortOf 4 RX1 (ws_X1_sortOf) (some .int) rm_X1_sortOf) (Rr : Rx NM X 0 0 (some (.int o.1)) SH o.2) (s : Sg) (v3 : Int32) (hf : c_X1_sortOf_12 s v3 = some o) : XW NM X 4 0 0 SH s 12 [(0, .ref 7), (3, .int v3)] [] := by
  unfold c_X1_sortOf_12 at hf
  refine X_aload_n C 0 dX1_sortOf_12 rfl rfl ?_
  refine X_geti C 1 sh_7 nc_1 inM_1 (by decide) (mc wd_22) rfl dX1_sortOf_13 ?_
  refine X_sipush (v := (400:Int32)) C dX1_sortOf_16 (by decide) ?_
  refine X_icmp_lt (tgt := 25) C dX1_sortOf_19 (by decide) hf (fun hf => ?_) (fun hf => ?_)
  · exact w_X1_sortOf_25 C Rr _ _ hf
  · refine X_iinc (v := (1:Int32)) (L' := [(0, .ref 7), (3, .int (v3 + (1:Int32)))]) C 1 [1, 0] dX1_sortOf_22 rfl (by decide) (by decide) rfl ?_
    exact w_X1_sortOf_25 C Rr _ _ hf
def c_X1_sortOf_0 (s : Sg) (v1 : Int32) (v2 : Int32) : Option (Int32 × Sg) :=
if (((4:Int32)) * v2) < v1 then
 c_X1_sortOf_12 s ((0:Int32))
 else
 c_X1_sortOf_12 s (((0:Int32)) + (1:Int32))
set_option maxHeartbeats 4000000 in
set_option maxRecDepth 100000 in
theorem w_X1_sortOf_0 {X : Ctx} {o : Int32 × Sg} (C : Cx NM X cX1_sortOf 4 RX1 (ws_X1_sortOf) (some .int) rm_X1_sortOf) (Rr : Rx NM X 0 0 (some (.int o.1)) SH o.2) (s : Sg) (v1 : Int32) (v2 : Int32) (hf : c_X1_sortOf_0 s v1 v2 = some o) : XW NM X 4 0 0 SH s 0 [(0, .ref 7), (1, .int v1), (2, .int v2)] [] := by
  unfold c_X1_sortOf_0 at hf
  refine X_iconst (v := (0:Int32)) C dX1_sortOf_0 (by decide) ?_
  refine X_istore_n (L' := [(0, .ref 7), (1, .int v1), (2, .int v2), (3, .int ((0:Int32)))]) C [1, 2, 3, 0] dX1_sortOf_1 rfl (by decide) rfl ?_
  refine X_iconst (v := (4:Int32)) C dX1_sortOf_2 (by decide) ?_
  refine X_iload_n C 2 dX1_sortOf_3 rfl rfl ?_
  refine X_imul C dX1_sortOf_4 ?_
  refine X_iload_n C 1 dX1_sortOf_5 rfl rfl ?_
  refine X_icmp_lt (tgt := 12) C dX1_sortOf_6 (by decide) hf (fun hf => ?_) (fun hf => ?_)
  · refine X_loc (L' := [(0, .ref 7), (3, .int ((0:Int32)))]) [0, 3] rfl ?_
    exact w_X1_sortOf_12 C Rr _ _ hf
  · refine X_iinc (v := (1:Int32)) (L' := [(0, .ref 7), (1, .int v1), (2, .int v2), (3, .int (((0:Int32)) + (1:Int32)))]) C 3 [1, 2, 3, 0] dX1_sortOf_9 rfl (by decide) (by decide) rfl ?_
    refine X_loc (L' := [(0, .ref 7), (3, .int (((0:Int32)) + (1:Int32)))]) [0, 3] rfl ?_
    exact w_X1_sortOf_12 C Rr _ _ hf
def f_X1_sortOf (s : Sg) (v1 : Int32) (v2 : Int32) : Option (Int32 × Sg) := c_X1_sortOf_0 s v1 v2
theorem k_X1_sortOf (s : Sg) (v1 : Int32) (v2 : Int32) (o : Int32 × Sg) (hf : f_X1_sortOf s v1 v2 = some o) : Ctr NM yX1_sortOf (ws_X1_sortOf) rm_X1_sortOf SH s [.ref 7, .int v1, .int v2] (some (.int o.1)) o.2 :=
  Ctr.of (by decide) rfl (Nat.le_of_ble_eq_true rfl) (fun X C Rr => by show XW NM X 4 0 0 SH s 0 [(0, .ref 7), (1, .int v1), (2, .int v2)] []; exact w_X1_sortOf_0 C Rr s v1 v2 hf)
abbrev ws_X1_bringDown : List Cond := Cond.code yX1_bringDown cX1_bringDown 10 none :: AW
abbrev rm_X1_bringDown : Room := { frames := 2, cells := 0, slots := 0, locals := 45 }
def c_X1_bringDown_49 (s : Sg) (v2 : Int32) (v5 : Int32) (v6 : Int32) : Option (Sg) :=
bdv (f_X6_set 4 2800 s v2 ((0:Int32)) ((2:Int32))) (fun s1 => lt_ (sgu s1 7 8 ((s1 7 8) + ((1:Int32)))) (fun s3 => lt_ (sgu s3 7 3 ((s3 7 3) + (v5 + v6))) (fun s4 => some s4)))
set_option maxHeartbeats 4000000 in
set_option maxRecDepth 100000 in
theorem w_X1_bringDown_49 {X : Ctx} {o : Sg} (C : Cx NM X cX1_bringDown 10 RX1 (ws_X1_bringDown) none rm_X1_bringDown) (Rr : Rx NM X 0 0 none SH o) (s : Sg) (v2 : Int32) (v5 : Int32) (v6 : Int32) (hf : c_X1_bringDown_49 s v2 v5 v6 = some o) : XW NM X 10 0 0 SH s 49 [(0, .ref 7), (1, .ref 4), (2, .int v2), (5, .int v5), (6, .int v6)] [] := by
  unfold c_X1_bringDown_49 at hf
  refine X_aload_n C 1 dX1_bringDown_49 rfl rfl ?_
  refine X_iload_n C 2 dX1_bringDown_50 rfl rfl ?_
  refine X_iconst (v := (0:Int32)) C dX1_bringDown_51 (by decide) ?_
  refine X_iconst (v := (2:Int32)) C dX1_bringDown_52 (by decide) ?_
  refine X_callVv (As := [.int v2, .int ((0:Int32)), .int ((2:Int32))]) (rest := []) C aw_ok mcs lk_X1_84 sh_4 nc_6 (by decide) rfl rfl (Nat.le_of_ble_eq_true rfl) dX1_bringDown_53 hf (fun s h => k_X6_set sh_4 sh_5 _ _ _ _ s h) (fun s1 hf => ?_)
  refine X_aload_n C 0 dX1_bringDown_56 rfl rfl ?_
  refine X_dup C dX1_bringDown_57 rfl ?_
  refine X_geti C 8 sh_7 nc_1 inM_1 (by decide) (mc wd_23) rfl dX1_bringDown_58 ?_
  refine X_iconst (v := (1:Int32)) C dX1_bringDown_61 (by decide) ?_
  refine X_iadd C dX1_bringDown_62 ?_
  refine X_puti C 8 sh_7 nc_1 inM_1 (by decide) tyX1 tyX1_ok nmX1 (mc wd_23) rfl (by decide +kernel) rfl dX1_bringDown_63 hf (fun s3 hf => ?_)
  refine X_aload_n C 0 dX1_bringDown_66 rfl rfl ?_
  refine X_dup C dX1_bringDown_67 rfl ?_
  refine X_geti C 3 sh_7 nc_1 inM_1 (by decide) (mc wd_24) rfl dX1_bringDown_68 ?_
  refine X_iload C 3 dX1_bringDown_71 rfl ?_
  refine X_iload C 4 dX1_bringDown_73 rfl ?_
  refine X_iadd C dX1_bringDown_75 ?_
  refine X_iadd C dX1_bringDown_76 ?_
  refine X_puti C 3 sh_7 nc_1 inM_1 (by decide) tyX1 tyX1_ok nmX1 (mc wd_24) rfl (by decide +kernel) rfl dX1_bringDown_77 hf (fun s4 hf => ?_)
  exact X_vret C dX1_bringDown_80 hf Rr
def c_X1_bringDown_0 (s : Sg) (v2 : Int32) : Option (Sg) :=
bd (f_X6_get 4 2800 s v2 ((2:Int32))) (fun r2 s1 => bd (f_X6_get 4 2800 s1 v2 ((3:Int32))) (fun r4 s3 => bd (f_X6_get 4 2800 s3 v2 ((4:Int32))) (fun r6 s5 => if (s5 7 1) < (((10:Int32)) * r2) then
 c_X1_bringDown_49 s5 v2 r2 r4
 else
 if r6 < 0 then
 c_X1_bringDown_49 s5 v2 r2 r4
 else
 if r6 < ((4:Int32)) then
 gd (vi r6 4) (gd (!decide (((100:Int32)) = 0)) (lt_ ((r2 * (s5 2 r6.toNatClampNeg)) / ((100:Int32))) (fun x7 => bd (f_X1_sortOf s5 r2 r4) (fun r9 s8 => bdv (f_X6_set 4 2800 s8 v2 ((0:Int32)) ((1:Int32))) (fun s10 => bdv (f_X6_set 4 2800 s10 v2 ((5:Int32)) r9) (fun s12 => bdv (f_X6_set 4 2800 s12 v2 ((6:Int32)) x7) (fun s14 => bdv (f_X2_pour s14 v2 r9 x7) (fun s16 => lt_ (sgu s16 7 3 ((s16 7 3) + ((r2 - x7) + r4))) (fun s18 => lt_ (sgu s18 7 1 ((s18 7 1) - (((5:Int32)) * r2))) (fun s19 => some s19))))))))))
 else
 c_X1_bringDown_49 s5 v2 r2 r4)))
set_option maxHeartbeats 4000000 in
set_option maxRecDepth 100000 in
theorem w_X1_bringDown_0 {X : Ctx} {o : Sg} (C : Cx NM X cX1_bringDown 10 RX1 (ws_X1_bringDown) none rm_X1_bringDown) (Rr : Rx NM X 0 0 none SH o) (s : Sg) (v2 : Int32) (hf : c_X1_bringDown_0 s v2 = some o) : XW NM X 10 0 0 SH s 0 [(0, .ref 7), (1, .ref 4), (2, .int v2), (3, .ref 6), (4, .ref 2)] [] := by
  unfold c_X1_bringDown_0 at hf
  refine X_aload_n C 1 dX1_bringDown_0 rfl rfl ?_
  refine X_iload_n C 2 dX1_bringDown_1 rfl rfl ?_
  refine X_iconst (v := (2:Int32)) C dX1_bringDown_2 (by decide) ?_
  refine X_callVi (As := [.int v2, .int ((2:Int32))]) (rest := []) C aw_ok mcs lk_X1_79 sh_4 nc_6 (by decide) rfl rfl (Nat.le_of_ble_eq_true rfl) dX1_bringDown_3 hf (fun r s h => k_X6_get sh_4 sh_5 _ _ _ (r, s) h) (fun r2 s1 hf => ?_)
  refine X_istore (L' := [(0, .ref 7), (1, .ref 4), (2, .int v2), (3, .ref 6), (4, .ref 2), (5, .int r2)]) C [1, 2, 3, 4, 5, 0] dX1_bringDown_6 (by decide) rfl ?_
  refine X_aload_n C 1 dX1_bringDown_8 rfl rfl ?_
  refine X_iload_n C 2 dX1_bringDown_9 rfl rfl ?_
  refine X_iconst (v := (3:Int32)) C dX1_bringDown_10 (by decide) ?_
  refine X_callVi (As := [.int v2, .int ((3:Int32))]) (rest := []) C aw_ok mcs lk_X1_79 sh_4 nc_6 (by decide) rfl rfl (Nat.le_of_ble_eq_true rfl) dX1_bringDown_11 hf (fun r s h => k_X6_get sh_4 sh_5 _ _ _ (r, s) h) (fun r4 s3 hf => ?_)
  refine X_istore (L' := [(0, .ref 7), (1, .ref 4), (2, .int v2), (3, .ref 6), (4, .ref 2), (5, .int r2), (6, .int r4)]) C [1, 2, 3, 4, 5, 6, 0] dX1_bringDown_14 (by decide) rfl ?_
  refine X_aload_n C 1 dX1_bringDown_16 rfl rfl ?_
  refine X_iload_n C 2 dX1_bringDown_17 rfl rfl ?_
  refine X_iconst (v := (4:Int32)) C dX1_bringDown_18 (by decide) ?_
  refine X_callVi (As := [.int v2, .int ((4:Int32))]) (rest := []) C aw_ok mcs lk_X1_79 sh_4 nc_6 (by decide) rfl rfl (Nat.le_of_ble_eq_true rfl) dX1_bringDown_19 hf (fun r s h => k_X6_get sh_4 sh_5 _ _ _ (r, s) h) (fun r6 s5 hf => ?_)
  refine X_istore (L' := [(0, .ref 7), (1, .ref 4), (2, .int v2), (3, .ref 6), (4, .ref 2), (5, .int r2), (6, .int r4), (7, .int r6)]) C [1, 2, 3, 4, 5, 6, 7, 0] dX1_bringDown_22 (by decide) rfl ?_
  refine X_aload_n C 0 dX1_bringDown_24 rfl rfl ?_
  refine X_geti C 1 sh_7 nc_1 inM_1 (by decide) (mc wd_22) rfl dX1_bringDown_25 ?_
  refine X_bipush (v := (10:Int32)) C dX1_bringDown_28 (by decide) ?_
  refine X_iload C 5 dX1_bringDown_30 rfl ?_
  refine X_imul C dX1_bringDown_32 ?_
  refine X_icmp_lt (tgt := 49) C dX1_bringDown_33 (by decide) hf (fun hf => ?_) (fun hf => ?_)
  · refine X_loc (L' := [(0, .ref 7), (1, .ref 4), (2, .int v2), (5, .int r2), (6, .int r4)]) [0, 1, 2, 5, 6] rfl ?_
    exact w_X1_bringDown_49 C Rr _ _ _ _ hf
  · refine X_iload C 7 dX1_bringDown_36 rfl ?_
    refine X_if_lt (tgt := 49) C dX1_bringDown_38 (by decide) hf (fun hf => ?_) (fun hf => ?_)
    · refine X_loc (L' := [(0, .ref 7), (1, .ref 4), (2, .int v2), (5, .int r2), (6, .int r4)]) [0, 1, 2, 5, 6] rfl ?_
      exact w_X1_bringDown_49 C Rr _ _ _ _ hf
    · refine X_iload C 7 dX1_bringDown_41 rfl ?_
      refine X_aload C 4 dX1_bringDown_43 rfl ?_
      refine X_alen (v := (4:Int32)) C sh_2 rfl (by decide) dX1_bringDown_45 ?_
      refine X_icmp_lt (tgt := 81) C dX1_bringDown_46 (by decide) hf (fun hf => ?_) (fun hf => ?_)
      · refine X_iload C 5 dX1_bringDown_81 rfl ?_
        refine X_aload C 4 dX1_bringDown_83 rfl ?_
        refine X_iload C 7 dX1_bringDown_85 rfl ?_
        refine X_iald C sh_2 dX1_bringDown_87 hf (fun hf => ?_)
        refine X_imul C dX1_bringDown_88 ?_
        refine X_bipush (v := (100:Int32)) C dX1_bringDown_89 (by decide) ?_
        refine X_idiv C dX1_bringDown_91 hf (fun hf => ?_)
        refine X_nm hf (fun x7 hf => ?_)
        refine X_istore (L' := [(0, .ref 7), (1, .ref 4), (2, .int v2), (3, .ref 6), (4, .ref 2), (5, .int r2), (6, .int r4), (7, .int r6), (8, .int x7)]) C [1, 2, 3, 4, 5, 6, 7, 8, 0] dX1_bringDown_92 (by decide) rfl ?_
        refine X_aload_n C 0 dX1_bringDown_94 rfl rfl ?_
        refine X_iload C 5 dX1_bringDown_95 rfl ?_
        refine X_iload C 6 dX1_bringDown_97 rfl ?_
        refine X_callVi (As := [.int r2, .int r4]) (rest := []) C aw_ok mcs lk_X1_88 sh_7 nc_1 (by decide) rfl rfl (Nat.le_of_ble_eq_true rfl) dX1_bringDown_99 hf (fun r s h => k_X1_sortOf _ _ _ (r, s) h) (fun r9 s8 hf => ?_)
        refine X_istore (L' := [(0, .ref 7), (1, .ref 4), (2, .int v2), (3, .ref 6), (4, .ref 2), (5, .int r2), (6, .int r4), (7, .int r6), (8, .int x7), (9, .int r9)]) C [1, 2, 3, 4, 5, 6, 7, 8, 9, 0] dX1_bringDown_102 (by decide) rfl ?_
        refine X_aload_n C 1 dX1_bringDown_104 rfl rfl ?_
        refine X_iload_n C 2 dX1_bringDown_105 rfl rfl ?_
        refine X_iconst (v := (0:Int32)) C dX1_bringDown_106 (by decide) ?_
        refine X_iconst (v := (1:Int32)) C dX1_bringDown_107 (by decide) ?_
        refine X_callVv (As := [.int v2, .int ((0:Int32)), .int ((1:Int32))]) (rest := []) C aw_ok mcs lk_X1_84 sh_4 nc_6 (by decide) rfl rfl (Nat.le_of_ble_eq_true rfl) dX1_bringDown_108 hf (fun s h => k_X6_set sh_4 sh_5 _ _ _ _ s h) (fun s10 hf => ?_)
        refine X_aload_n C 1 dX1_bringDown_111 rfl rfl ?_
        refine X_iload_n C 2 dX1_bringDown_112 rfl rfl ?_
        refine X_iconst (v := (5:Int32)) C dX1_bringDown_113 (by decide) ?_
        refine X_iload C 9 dX1_bringDown_114 rfl ?_
        refine X_callVv (As := [.int v2, .int ((5:Int32)), .int r9]) (rest := []) C aw_ok mcs lk_X1_84 sh_4 nc_6 (by decide) rfl rfl (Nat.le_of_ble_eq_true rfl) dX1_bringDown_116 hf (fun s h => k_X6_set sh_4 sh_5 _ _ _ _ s h) (fun s12 hf => ?_)
        refine X_aload_n C 1 dX1_bringDown_119 rfl rfl ?_
        refine X_iload_n C 2 dX1_bringDown_120 rfl rfl ?_
        refine X_bipush (v := (6:Int32)) C dX1_bringDown_121 (by decide) ?_
        refine X_iload C 8 dX1_bringDown_123 rfl ?_
        refine X_callVv (As := [.int v2, .int ((6:Int32)), .int x7]) (rest := []) C aw_ok mcs lk_X1_84 sh_4 nc_6 (by decide) rfl rfl (Nat.le_of_ble_eq_true rfl) dX1_bringDown_125 hf (fun s h => k_X6_set sh_4 sh_5 _ _ _ _ s h) (fun s14 hf => ?_)
        refine X_aload_n C 3 dX1_bringDown_128 rfl rfl ?_
        refine X_iload_n C 2 dX1_bringDown_129 rfl rfl ?_
        refine X_iload C 9 dX1_bringDown_130 rfl ?_
        refine X_iload C 8 dX1_bringDown_132 rfl ?_
        refine X_callVv (As := [.int v2, .int r9, .int x7]) (rest := []) C aw_ok mcs lk_X1_91 sh_6 nc_2 (by decide) rfl rfl (Nat.le_of_ble_eq_true rfl) dX1_bringDown_134 hf (fun s h => k_X2_pour _ _ _ _ s h) (fun s16 hf => ?_)
        refine X_aload_n C 0 dX1_bringDown_137 rfl rfl ?_
        refine X_dup C dX1_bringDown_138 rfl ?_
        refine X_geti C 3 sh_7 nc_1 inM_1 (by decide) (mc wd_24) rfl dX1_bringDown_139 ?_
        refine X_iload C 5 dX1_bringDown_142 rfl ?_
        refine X_iload C 8 dX1_bringDown_144 rfl ?_
        refine X_isub C dX1_bringDown_146 ?_
        refine X_iload C 6 dX1_bringDown_147 rfl ?_
        refine X_iadd C dX1_bringDown_149 ?_
        refine X_iadd C dX1_bringDown_150 ?_
        refine X_puti C 3 sh_7 nc_1 inM_1 (by decide) tyX1 tyX1_ok nmX1 (mc wd_24) rfl (by decide +kernel) rfl dX1_bringDown_151 hf (fun s18 hf => ?_)
        refine X_aload_n C 0 dX1_bringDown_154 rfl rfl ?_
        refine X_dup C dX1_bringDown_155 rfl ?_
        refine X_geti C 1 sh_7 nc_1 inM_1 (by decide) (mc wd_22) rfl dX1_bringDown_156 ?_
        refine X_iconst (v := (5:Int32)) C dX1_bringDown_159 (by decide) ?_
        refine X_iload C 5 dX1_bringDown_160 rfl ?_
        refine X_imul C dX1_bringDown_162 ?_
        refine X_isub C dX1_bringDown_163 ?_
        refine X_puti C 1 sh_7 nc_1 inM_1 (by decide) tyX1 tyX1_ok nmX1 (mc wd_22) rfl (by decide +kernel) rfl dX1_bringDown_164 hf (fun s19 hf => ?_)
        exact X_vret C dX1_bringDown_167 hf Rr
      · refine X_loc (L' := [(0, .ref 7), (1, .ref 4), (2, .int v2), (5, .int r2), (6, .int r4)]) [0, 1, 2, 5, 6] rfl ?_
        exact w_X1_bringDown_49 C Rr _ _ _ _ hf
def f_X1_bringDown (s : Sg) (v2 : Int32) : Option (Sg) := c_X1_bringDown_0 s v2
theorem k_X1_bringDown (s : Sg) (v2 : Int32) (o : Sg) (hf : f_X1_bringDown s v2 = some o) : Ctr NM yX1_bringDown (ws_X1_bringDown) rm_X1_bringDown SH s [.ref 7, .ref 4, .int v2, .ref 6, .ref 2] none o :=
  Ctr.of (by decide) rfl (Nat.le_of_ble_eq_true rfl) (fun X C Rr => by show XW NM X 10 0 0 SH s 0 [(0, .ref 7), (1, .ref 4), (2, .int v2), (3, .ref 6), (4, .ref 2)] []; exact w_X1_bringDown_0 C Rr s v2 hf)
abbrev ws_X1_blow : List Cond := Cond.code yX1_blow cX1_blow 6 none :: AW
abbrev rm_X1_blow : Room := { frames := 3, cells := 0, slots := 0, locals := 74 }
def c_X1_blow_73 (N : Nat) (s : Sg) (v4 : Int32) : Option (Sg) :=
lt_ (sgu s 7 1 ((if ((0:Int32)) < ((if (((s 7 1) + (((8:Int32)) * v4)) - ((40:Int32))) < ((1000:Int32)) then (((s 7 1) + (((8:Int32)) * v4)) - ((40:Int32))) else ((1000:Int32)))) then ((if (((s 7 1) + (((8:Int32)) * v4)) - ((40:Int32))) < ((1000:Int32)) then (((s 7 1) + (((8:Int32)) * v4)) - ((40:Int32))) else ((1000:Int32)))) else ((0:Int32))))) (fun s1 => bd (f_X2_spill s1) (fun r3 s2 => lt_ (sgu s2 7 3 ((s1 7 3) + r3)) (fun s4 => lt_ (sgu s4 7 2 ((s4 7 2) + (s4 7 3))) (fun s5 => gd (!decide (((100:Int32)) = 0)) (lt_ (sgu s5 7 4 ((s5 7 4) + ((s5 7 1) / ((100:Int32))))) (fun s6 => lt_ (sgu s6 7 6 ((s6 7 6) + ((1:Int32)))) (fun s7 => if (s7 7 4) < (s7 7 5) then
 gd (bz ((0:Int32))) (lt_ (sgu s7 7 9 ((0:Int32))) (fun s8 => some s8))
 else
 gd (bz ((1:Int32))) (lt_ (sgu s7 7 9 ((1:Int32))) (fun s9 => some s9)))))))))
set_option maxHeartbeats 4000000 in
set_option maxRecDepth 100000 in
theorem w_X1_blow_73 {X : Ctx} {N : Nat} {o : Sg} (C : Cx NM X cX1_blow 6 RX1 (ws_X1_blow) none rm_X1_blow) (Rr : Rx NM X 0 0 none SH o) (s : Sg) (v4 : Int32) (hf : c_X1_blow_73 N s v4 = some o) : XW NM X 6 0 0 SH s 73 [(0, .ref 7), (2, .ref 6), (4, .int v4)] [] := by
  unfold c_X1_blow_73 at hf
  refine X_aload_n C 0 dX1_blow_73 rfl rfl ?_
  refine X_iconst (v := (0:Int32)) C dX1_blow_74 (by decide) ?_
  refine X_sipush (v := (1000:Int32)) C dX1_blow_75 (by decide) ?_
  refine X_aload_n C 0 dX1_blow_78 rfl rfl ?_
  refine X_geti C 1 sh_7 nc_1 inM_1 (by decide) (mc wd_22) rfl dX1_blow_79 ?_
  refine X_bipush (v := (8:Int32)) C dX1_blow_82 (by decide) ?_
  refine X_iload C 2 dX1_blow_84 rfl ?_
  refine X_imul C dX1_blow_86 ?_
  refine X_iadd C dX1_blow_87 ?_
  refine X_bipush (v := (40:Int32)) C dX1_blow_88 (by decide) ?_
  refine X_isub C dX1_blow_90 ?_
  refine X_mmin C (mc wd_27) (mc wd_8) (mc wd_9) (mc wd_10) ⟨Nat.le_of_ble_eq_true rfl, Nat.le_of_ble_eq_true rfl, Nat.zero_le _, Nat.zero_le _⟩ dX1_blow_91 ?_
  refine X_mmax C (mc wd_28) (mc wd_19) (mc wd_9) (mc wd_20) ⟨Nat.le_of_ble_eq_true rfl, Nat.le_of_ble_eq_true rfl, Nat.zero_le _, Nat.zero_le _⟩ dX1_blow_94 ?_
  refine X_puti C 1 sh_7 nc_1 inM_1 (by decide) tyX1 tyX1_ok nmX1 (mc wd_22) rfl (by decide +kernel) rfl dX1_blow_97 hf (fun s1 hf => ?_)
  refine X_aload_n C 0 dX1_blow_100 rfl rfl ?_
  refine X_dup C dX1_blow_101 rfl ?_
  refine X_geti C 3 sh_7 nc_1 inM_1 (by decide) (mc wd_24) rfl dX1_blow_102 ?_
  refine X_aload_n C 1 dX1_blow_105 rfl rfl ?_
  refine X_callVi (As := []) (rest := [.int (s1 7 3), .ref 7]) C aw_ok mcs lk_X1_73 sh_6 nc_2 (by decide) rfl rfl (Nat.le_of_ble_eq_true rfl) dX1_blow_106 hf (fun r s h => k_X2_spill _ (r, s) h) (fun r3 s2 hf => ?_)
  refine X_iadd C dX1_blow_109 ?_
  refine X_puti C 3 sh_7 nc_1 inM_1 (by decide) tyX1 tyX1_ok nmX1 (mc wd_24) rfl (by decide +kernel) rfl dX1_blow_110 hf (fun s4 hf => ?_)
  refine X_aload_n C 0 dX1_blow_113 rfl rfl ?_
  refine X_dup C dX1_blow_114 rfl ?_
  refine X_geti C 2 sh_7 nc_1 inM_1 (by decide) (mc wd_29) rfl dX1_blow_115 ?_
  refine X_aload_n C 0 dX1_blow_118 rfl rfl ?_
  refine X_geti C 3 sh_7 nc_1 inM_1 (by decide) (mc wd_24) rfl dX1_blow_119 ?_
  refine X_iadd C dX1_blow_122 ?_
  refine X_puti C 2 sh_7 nc_1 inM_1 (by decide) tyX1 tyX1_ok nmX1 (mc wd_29) rfl (by decide +kernel) rfl dX1_blow_123 hf (fun s5 hf => ?_)
  refine X_aload_n C 0 dX1_blow_126 rfl rfl ?_
  refine X_dup C dX1_blow_127 rfl ?_
  refine X_geti C 4 sh_7 nc_1 inM_1 (by decide) (mc wd_30) rfl dX1_blow_128 ?_
  refine X_aload_n C 0 dX1_blow_131 rfl rfl ?_
  refine X_geti C 1 sh_7 nc_1 inM_1 (by decide) (mc wd_22) rfl dX1_blow_132 ?_
  refine X_bipush (v := (100:Int32)) C dX1_blow_135 (by decide) ?_
  refine X_idiv C dX1_blow_137 hf (fun hf => ?_)
  refine X_iadd C dX1_blow_138 ?_
  refine X_puti C 4 sh_7 nc_1 inM_1 (by decide) tyX1 tyX1_ok nmX1 (mc wd_30) rfl (by decide +kernel) rfl dX1_blow_139 hf (fun s6 hf => ?_)
  refine X_aload_n C 0 dX1_blow_142 rfl rfl ?_
  refine X_dup C dX1_blow_143 rfl ?_
  refine X_geti C 6 sh_7 nc_1 inM_1 (by decide) (mc wd_31) rfl dX1_blow_144 ?_
  refine X_iconst (v := (1:Int32)) C dX1_blow_147 (by decide) ?_
  refine X_iadd C dX1_blow_148 ?_
  refine X_puti C 6 sh_7 nc_1 inM_1 (by decide) tyX1 tyX1_ok nmX1 (mc wd_31) rfl (by decide +kernel) rfl dX1_blow_149 hf (fun s7 hf => ?_)
  refine X_aload_n C 0 dX1_blow_152 rfl rfl ?_
  refine X_aload_n C 0 dX1_blow_153 rfl rfl ?_
  refine X_geti C 4 sh_7 nc_1 inM_1 (by decide) (mc wd_30) rfl dX1_blow_154 ?_
  refine X_aload_n C 0 dX1_blow_157 rfl rfl ?_
  refine X_geti C 5 sh_7 nc_1 inM_1 (by decide) (mc wd_32) rfl dX1_blow_158 ?_
  refine X_icmp_lt (tgt := 168) C dX1_blow_161 (by decide) hf (fun hf => ?_) (fun hf => ?_)
  · refine X_iconst (v := (0:Int32)) C dX1_blow_168 (by decide) ?_
    refine X_putz C 9 sh_7 nc_1 inM_1 (by decide) tyX1 tyX1_ok nmX1 (mc wd_33) rfl (by decide +kernel) rfl dX1_blow_169 hf (fun s8 hf => ?_)
    exact X_vret C dX1_blow_172 hf Rr
  · refine X_iconst (v := (1:Int32)) C dX1_blow_164 (by decide) ?_
    refine X_goto (tgt := 169) C dX1_blow_165 (by decide) ?_
    refine X_putz C 9 sh_7 nc_1 inM_1 (by decide) tyX1 tyX1_ok nmX1 (mc wd_33) rfl (by decide +kernel) rfl dX1_blow_169 hf (fun s9 hf => ?_)
    exact X_vret C dX1_blow_172 hf Rr
def c_X1_blow_29 (N : Nat) (K29 : Sg → Int32 → Int32 → Option (Sg)) (s : Sg) (v4 : Int32) (v5 : Int32) : Option (Sg) :=
if ((12:Int32)) ≤ v5 then
 c_X1_blow_73 N s v4
 else
 bd (f_X0_lowestIsBurned s) (fun r2 s1 => if r2 = 0 then
 c_X1_blow_73 N s1 v4
 else
 bdv (f_X1_bringDown s1 (s1 3 1)) (fun s3 => lt_ (sgu s3 3 1 ((s3 3 1) + ((1:Int32)))) (fun s5 => K29 s5 v4 (v5 + (1:Int32)))))
set_option maxHeartbeats 4000000 in
set_option maxRecDepth 100000 in
theorem w_X1_blow_29 {X : Ctx} {N : Nat} {o : Sg} (C : Cx NM X cX1_blow 6 RX1 (ws_X1_blow) none rm_X1_blow) (Rr : Rx NM X 0 0 none SH o) {K29 : Sg → Int32 → Int32 → Option (Sg)} (hK29 : ∀ (s : Sg) (v4 : Int32) (v5 : Int32), K29 s v4 v5 = some o → XW NM X 6 0 0 SH s 29 [(0, .ref 7), (1, .ref 3), (2, .ref 6), (3, .ref 2), (4, .int v4), (5, .int v5)] []) (s : Sg) (v4 : Int32) (v5 : Int32) (hf : c_X1_blow_29 N K29 s v4 v5 = some o) : XW NM X 6 0 0 SH s 29 [(0, .ref 7), (1, .ref 3), (2, .ref 6), (3, .ref 2), (4, .int v4), (5, .int v5)] [] := by
  unfold c_X1_blow_29 at hf
  refine X_iload C 5 dX1_blow_29 rfl ?_
  refine X_bipush (v := (12:Int32)) C dX1_blow_31 (by decide) ?_
  refine X_icmp_ge (tgt := 73) C dX1_blow_33 (by decide) hf (fun hf => ?_) (fun hf => ?_)
  · refine X_loc (L' := [(0, .ref 7), (2, .ref 6), (4, .int v4)]) [0, 2, 4] rfl ?_
    exact w_X1_blow_73 C Rr _ _ hf
  · refine X_aload_n C 1 dX1_blow_36 rfl rfl ?_
    refine X_callVi (As := []) (rest := []) C aw_ok mcs lk_X1_49 sh_3 nc_0 (by decide) rfl rfl (Nat.le_of_ble_eq_true rfl) dX1_blow_37 hf (fun r s h => k_X0_lowestIsBurned _ (r, s) h) (fun r2 s1 hf => ?_)
    refine X_if_eq (tgt := 73) C dX1_blow_40 (by decide) hf (fun hf => ?_) (fun hf => ?_)
    · refine X_loc (L' := [(0, .ref 7), (2, .ref 6), (4, .int v4)]) [0, 2, 4] rfl ?_
      exact w_X1_blow_73 C Rr _ _ hf
    · refine X_aload_n C 0 dX1_blow_43 rfl rfl ?_
      refine X_aload_n C 1 dX1_blow_44 rfl rfl ?_
      refine X_getrN C 0 sh_3 nc_0 inM_0 (by decide) nf_X1_53 rfl dX1_blow_45 ?_
      refine X_aload_n C 1 dX1_blow_48 rfl rfl ?_
      refine X_getiN C 1 sh_3 nc_0 inM_0 (by decide) nf_X1_57 rfl dX1_blow_49 ?_
      refine X_aload_n C 2 dX1_blow_52 rfl rfl ?_
      refine X_aload_n C 3 dX1_blow_53 rfl rfl ?_
      refine X_callVv (As := [.ref 4, .int (s1 3 1), .ref 6, .ref 2]) (rest := []) C aw_ok mcs lk_X1_60 sh_7 nc_1 (by decide) rfl rfl (Nat.le_of_ble_eq_true rfl) dX1_blow_54 hf (fun s h => k_X1_bringDown _ _ s h) (fun s3 hf => ?_)
      refine X_aload_n C 1 dX1_blow_57 rfl rfl ?_
      refine X_dup C dX1_blow_58 rfl ?_
      refine X_getiN C 1 sh_3 nc_0 inM_0 (by decide) nf_X1_57 rfl dX1_blow_59 ?_
      refine X_iconst (v := (1:Int32)) C dX1_blow_62 (by decide) ?_
      refine X_iadd C dX1_blow_63 ?_
      refine X_putiN C 1 sh_3 nc_0 inM_0 (by decide) tyX0 tyX0_ok nmX0 nf_X1_57 rfl (by decide +kernel) rfl dX1_blow_64 hf (fun s5 hf => ?_)
      refine X_iinc (v := (1:Int32)) (L' := [(0, .ref 7), (1, .ref 3), (2, .ref 6), (3, .ref 2), (4, .int v4), (5, .int (v5 + (1:Int32)))]) C 5 [1, 2, 3, 4, 5, 0] dX1_blow_67 rfl (by decide) (by decide) rfl ?_
      refine X_goto (tgt := 29) C dX1_blow_70 (by decide) ?_
      exact hK29 _ _ _ hf
def b_X1_blow_29 (N : Nat) : Nat → Sg → Int32 → Int32 → Option (Sg)
  | 0, _, _, _ => none
  | j + 1, s, v4, v5 => c_X1_blow_29 N (b_X1_blow_29 N j) s v4 v5
theorem h_X1_blow_29 {X : Ctx} {N : Nat} {o : Sg} (C : Cx NM X cX1_blow 6 RX1 (ws_X1_blow) none rm_X1_blow) (Rr : Rx NM X 0 0 none SH o) : ∀ (j : Nat) (s : Sg) (v4 : Int32) (v5 : Int32), b_X1_blow_29 N j s v4 v5 = some o → XW NM X 6 0 0 SH s 29 [(0, .ref 7), (1, .ref 3), (2, .ref 6), (3, .ref 2), (4, .int v4), (5, .int v5)] [] := by
  intro j
  induction j with
  | zero => intro s v4 v5 hf; cases (show none = some o from hf)
  | succ j ih => intro s v4 v5 hf; exact w_X1_blow_29 C Rr ih s v4 v5 hf
def c_X1_blow_0 (N : Nat) (s : Sg) : Option (Sg) :=
lt_ (sgu s 7 3 ((0:Int32))) (fun s1 => bd (f_X0_burn N s1 (s1 7 0)) (fun r3 s2 => lt_ (sgu s2 7 7 ((s2 7 7) + r3)) (fun s4 => b_X1_blow_29 N N s4 r3 ((0:Int32)))))
set_option maxHeartbeats 4000000 in
set_option maxRecDepth 100000 in
theorem w_X1_blow_0 {X : Ctx} {N : Nat} {o : Sg} (C : Cx NM X cX1_blow 6 RX1 (ws_X1_blow) none rm_X1_blow) (Rr : Rx NM X 0 0 none SH o) (s : Sg) (hf : c_X1_blow_0 N s = some o) : XW NM X 6 0 0 SH s 0 [(0, .ref 7), (1, .ref 3), (2, .ref 6), (3, .ref 2)] [] := by
  unfold c_X1_blow_0 at hf
  refine X_aload_n C 0 dX1_blow_0 rfl rfl ?_
  refine X_iconst (v := (0:Int32)) C dX1_blow_1 (by decide) ?_
  refine X_puti C 3 sh_7 nc_1 inM_1 (by decide) tyX1 tyX1_ok nmX1 (mc wd_24) rfl (by decide +kernel) rfl dX1_blow_2 hf (fun s1 hf => ?_)
  refine X_aload_n C 1 dX1_blow_5 rfl rfl ?_
  refine X_aload_n C 0 dX1_blow_6 rfl rfl ?_
  refine X_geti C 0 sh_7 nc_1 inM_1 (by decide) (mc wd_25) rfl dX1_blow_7 ?_
  refine X_callVi (As := [.int (s1 7 0)]) (rest := []) C aw_ok mcs lk_X1_43 sh_3 nc_0 (by decide) rfl rfl (Nat.le_of_ble_eq_true rfl) dX1_blow_10 hf (fun r s h => k_X0_burn _ _ (r, s) h) (fun r3 s2 hf => ?_)
  refine X_istore (L' := [(0, .ref 7), (1, .ref 3), (2, .ref 6), (3, .ref 2), (4, .int r3)]) C [1, 2, 3, 4, 0] dX1_blow_13 (by decide) rfl ?_
  refine X_aload_n C 0 dX1_blow_15 rfl rfl ?_
  refine X_dup C dX1_blow_16 rfl ?_
  refine X_geti C 7 sh_7 nc_1 inM_1 (by decide) (mc wd_26) rfl dX1_blow_17 ?_
  refine X_iload C 4 dX1_blow_20 rfl ?_
  refine X_iadd C dX1_blow_22 ?_
  refine X_puti C 7 sh_7 nc_1 inM_1 (by decide) tyX1 tyX1_ok nmX1 (mc wd_26) rfl (by decide +kernel) rfl dX1_blow_23 hf (fun s4 hf => ?_)
  refine X_iconst (v := (0:Int32)) C dX1_blow_26 (by decide) ?_
  refine X_istore (L' := [(0, .ref 7), (1, .ref 3), (2, .ref 6), (3, .ref 2), (4, .int r3), (5, .int ((0:Int32)))]) C [1, 2, 3, 4, 5, 0] dX1_blow_27 (by decide) rfl ?_
  exact h_X1_blow_29 C Rr _ _ _ _ hf
def f_X1_blow (N : Nat) (s : Sg) : Option (Sg) := c_X1_blow_0 N s
theorem k_X1_blow {N : Nat} (s : Sg) (o : Sg) (hf : f_X1_blow N s = some o) : Ctr NM yX1_blow (ws_X1_blow) rm_X1_blow SH s [.ref 7, .ref 3, .ref 6, .ref 2] none o :=
  Ctr.of (by decide) rfl (Nat.le_of_ble_eq_true rfl) (fun X C Rr => by show XW NM X 6 0 0 SH s 0 [(0, .ref 7), (1, .ref 3), (2, .ref 6), (3, .ref 2)] []; exact w_X1_blow_0 C Rr s hf)

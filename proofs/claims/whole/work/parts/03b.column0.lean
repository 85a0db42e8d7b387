abbrev ws_X0_size : List Cond := Cond.code yX0_size cX0_size 1 (some .int) :: AW
abbrev rm_X0_size : Room := { frames := 0, cells := 0, slots := 0, locals := 0 }
def c_X0_size_0 (s : Sg) : Option (Int32 × Sg) :=
some ((s 4 3) - (s 3 1), s)
set_option maxHeartbeats 4000000 in
set_option maxRecDepth 100000 in
theorem w_X0_size_0 {X : Ctx} {o : Int32 × Sg} (C : Cx NM X cX0_size 1 RX0 (ws_X0_size) (some .int) rm_X0_size) (Rr : Rx NM X 0 0 (some (.int o.1)) SH o.2) (s : Sg) (hf : c_X0_size_0 s = some o) : XW NM X 1 0 0 SH s 0 [(0, .ref 3)] [] := by
  unfold c_X0_size_0 at hf
  refine X_aload_n C 0 dX0_size_0 rfl rfl ?_
  refine X_getr C 0 sh_3 nc_0 inM_0 (by decide) (mc wd_5) rfl dX0_size_1 ?_
  refine X_getiN C 3 sh_4 nc_6 inM_6 (by decide) nf_X0_24 rfl dX0_size_4 ?_
  refine X_aload_n C 0 dX0_size_7 rfl rfl ?_
  refine X_geti C 1 sh_3 nc_0 inM_0 (by decide) (mc wd_6) rfl dX0_size_8 ?_
  refine X_isub C dX0_size_11 ?_
  exact X_iret C dX0_size_12 hf Rr
def f_X0_size (s : Sg) : Option (Int32 × Sg) := c_X0_size_0 s
theorem k_X0_size (s : Sg) (o : Int32 × Sg) (hf : f_X0_size s = some o) : Ctr NM yX0_size (ws_X0_size) rm_X0_size SH s [.ref 3] (some (.int o.1)) o.2 :=
  Ctr.of (by decide) rfl (Nat.le_of_ble_eq_true rfl) (fun X C Rr => by show XW NM X 1 0 0 SH s 0 [(0, .ref 3)] []; exact w_X0_size_0 C Rr s hf)
abbrev ws_X0_lay : List Cond := Cond.code yX0_lay cX0_lay 6 (some .int) :: AW
abbrev rm_X0_lay : Room := { frames := 2, cells := 0, slots := 0, locals := 45 }
def c_X0_lay_0 (s : Sg) (v1 : Int32) (v2 : Int32) (v3 : Int32) (v4 : Int32) : Option (Int32 × Sg) :=
bd (f_X6_add 4 2800 s) (fun r2 s1 => bdv (f_X6_set 4 2800 s1 r2 ((0:Int32)) ((0:Int32))) (fun s3 => bdv (f_X6_set 4 2800 s3 r2 ((1:Int32)) v1) (fun s5 => bdv (f_X6_set 4 2800 s5 r2 ((2:Int32)) v3) (fun s7 => bdv (f_X6_set 4 2800 s7 r2 ((3:Int32)) v4) (fun s9 => bdv (f_X6_set 4 2800 s9 r2 ((4:Int32)) v2) (fun s11 => bdv (f_X6_set 4 2800 s11 r2 ((5:Int32)) ((-1:Int32))) (fun s13 => bdv (f_X6_set 4 2800 s13 r2 ((6:Int32)) ((0:Int32))) (fun s15 => some (r2, s15)))))))))
set_option maxHeartbeats 4000000 in
set_option maxRecDepth 100000 in
theorem w_X0_lay_0 {X : Ctx} {o : Int32 × Sg} (C : Cx NM X cX0_lay 6 RX0 (ws_X0_lay) (some .int) rm_X0_lay) (Rr : Rx NM X 0 0 (some (.int o.1)) SH o.2) (s : Sg) (v1 : Int32) (v2 : Int32) (v3 : Int32) (v4 : Int32) (hf : c_X0_lay_0 s v1 v2 v3 v4 = some o) : XW NM X 6 0 0 SH s 0 [(0, .ref 3), (1, .int v1), (2, .int v2), (3, .int v3), (4, .int v4)] [] := by
  unfold c_X0_lay_0 at hf
  refine X_aload_n C 0 dX0_lay_0 rfl rfl ?_
  refine X_getr C 0 sh_3 nc_0 inM_0 (by decide) (mc wd_5) rfl dX0_lay_1 ?_
  refine X_callVi (As := []) (rest := []) C aw_ok mcs lk_X0_27 sh_4 nc_6 (by decide) rfl rfl (Nat.le_of_ble_eq_true rfl) dX0_lay_4 hf (fun r s h => k_X6_add sh_4 sh_5 _ (r, s) h) (fun r2 s1 hf => ?_)
  refine X_istore (L' := [(0, .ref 3), (1, .int v1), (2, .int v2), (3, .int v3), (4, .int v4), (5, .int r2)]) C [1, 2, 3, 4, 5, 0] dX0_lay_7 (by decide) rfl ?_
  refine X_aload_n C 0 dX0_lay_9 rfl rfl ?_
  refine X_getr C 0 sh_3 nc_0 inM_0 (by decide) (mc wd_5) rfl dX0_lay_10 ?_
  refine X_iload C 5 dX0_lay_13 rfl ?_
  refine X_iconst (v := (0:Int32)) C dX0_lay_15 (by decide) ?_
  refine X_iconst (v := (0:Int32)) C dX0_lay_16 (by decide) ?_
  refine X_callVv (As := [.int r2, .int ((0:Int32)), .int ((0:Int32))]) (rest := []) C aw_ok mcs lk_X0_31 sh_4 nc_6 (by decide) rfl rfl (Nat.le_of_ble_eq_true rfl) dX0_lay_17 hf (fun s h => k_X6_set sh_4 sh_5 _ _ _ _ s h) (fun s3 hf => ?_)
  refine X_aload_n C 0 dX0_lay_20 rfl rfl ?_
  refine X_getr C 0 sh_3 nc_0 inM_0 (by decide) (mc wd_5) rfl dX0_lay_21 ?_
  refine X_iload C 5 dX0_lay_24 rfl ?_
  refine X_iconst (v := (1:Int32)) C dX0_lay_26 (by decide) ?_
  refine X_iload_n C 1 dX0_lay_27 rfl rfl ?_
  refine X_callVv (As := [.int r2, .int ((1:Int32)), .int v1]) (rest := []) C aw_ok mcs lk_X0_31 sh_4 nc_6 (by decide) rfl rfl (Nat.le_of_ble_eq_true rfl) dX0_lay_28 hf (fun s h => k_X6_set sh_4 sh_5 _ _ _ _ s h) (fun s5 hf => ?_)
  refine X_aload_n C 0 dX0_lay_31 rfl rfl ?_
  refine X_getr C 0 sh_3 nc_0 inM_0 (by decide) (mc wd_5) rfl dX0_lay_32 ?_
  refine X_iload C 5 dX0_lay_35 rfl ?_
  refine X_iconst (v := (2:Int32)) C dX0_lay_37 (by decide) ?_
  refine X_iload_n C 3 dX0_lay_38 rfl rfl ?_
  refine X_callVv (As := [.int r2, .int ((2:Int32)), .int v3]) (rest := []) C aw_ok mcs lk_X0_31 sh_4 nc_6 (by decide) rfl rfl (Nat.le_of_ble_eq_true rfl) dX0_lay_39 hf (fun s h => k_X6_set sh_4 sh_5 _ _ _ _ s h) (fun s7 hf => ?_)
  refine X_aload_n C 0 dX0_lay_42 rfl rfl ?_
  refine X_getr C 0 sh_3 nc_0 inM_0 (by decide) (mc wd_5) rfl dX0_lay_43 ?_
  refine X_iload C 5 dX0_lay_46 rfl ?_
  refine X_iconst (v := (3:Int32)) C dX0_lay_48 (by decide) ?_
  refine X_iload C 4 dX0_lay_49 rfl ?_
  refine X_callVv (As := [.int r2, .int ((3:Int32)), .int v4]) (rest := []) C aw_ok mcs lk_X0_31 sh_4 nc_6 (by decide) rfl rfl (Nat.le_of_ble_eq_true rfl) dX0_lay_51 hf (fun s h => k_X6_set sh_4 sh_5 _ _ _ _ s h) (fun s9 hf => ?_)
  refine X_aload_n C 0 dX0_lay_54 rfl rfl ?_
  refine X_getr C 0 sh_3 nc_0 inM_0 (by decide) (mc wd_5) rfl dX0_lay_55 ?_
  refine X_iload C 5 dX0_lay_58 rfl ?_
  refine X_iconst (v := (4:Int32)) C dX0_lay_60 (by decide) ?_
  refine X_iload_n C 2 dX0_lay_61 rfl rfl ?_
  refine X_callVv (As := [.int r2, .int ((4:Int32)), .int v2]) (rest := []) C aw_ok mcs lk_X0_31 sh_4 nc_6 (by decide) rfl rfl (Nat.le_of_ble_eq_true rfl) dX0_lay_62 hf (fun s h => k_X6_set sh_4 sh_5 _ _ _ _ s h) (fun s11 hf => ?_)
  refine X_aload_n C 0 dX0_lay_65 rfl rfl ?_
  refine X_getr C 0 sh_3 nc_0 inM_0 (by decide) (mc wd_5) rfl dX0_lay_66 ?_
  refine X_iload C 5 dX0_lay_69 rfl ?_
  refine X_iconst (v := (5:Int32)) C dX0_lay_71 (by decide) ?_
  refine X_iconst (v := (-1:Int32)) C dX0_lay_72 (by decide) ?_
  refine X_callVv (As := [.int r2, .int ((5:Int32)), .int ((-1:Int32))]) (rest := []) C aw_ok mcs lk_X0_31 sh_4 nc_6 (by decide) rfl rfl (Nat.le_of_ble_eq_true rfl) dX0_lay_73 hf (fun s h => k_X6_set sh_4 sh_5 _ _ _ _ s h) (fun s13 hf => ?_)
  refine X_aload_n C 0 dX0_lay_76 rfl rfl ?_
  refine X_getr C 0 sh_3 nc_0 inM_0 (by decide) (mc wd_5) rfl dX0_lay_77 ?_
  refine X_iload C 5 dX0_lay_80 rfl ?_
  refine X_bipush (v := (6:Int32)) C dX0_lay_82 (by decide) ?_
  refine X_iconst (v := (0:Int32)) C dX0_lay_84 (by decide) ?_
  refine X_callVv (As := [.int r2, .int ((6:Int32)), .int ((0:Int32))]) (rest := []) C aw_ok mcs lk_X0_31 sh_4 nc_6 (by decide) rfl rfl (Nat.le_of_ble_eq_true rfl) dX0_lay_85 hf (fun s h => k_X6_set sh_4 sh_5 _ _ _ _ s h) (fun s15 hf => ?_)
  refine X_iload C 5 dX0_lay_88 rfl ?_
  exact X_iret C dX0_lay_90 hf Rr
def f_X0_lay (s : Sg) (v1 : Int32) (v2 : Int32) (v3 : Int32) (v4 : Int32) : Option (Int32 × Sg) := c_X0_lay_0 s v1 v2 v3 v4
theorem k_X0_lay (s : Sg) (v1 : Int32) (v2 : Int32) (v3 : Int32) (v4 : Int32) (o : Int32 × Sg) (hf : f_X0_lay s v1 v2 v3 v4 = some o) : Ctr NM yX0_lay (ws_X0_lay) rm_X0_lay SH s [.ref 3, .int v1, .int v2, .int v3, .int v4] (some (.int o.1)) o.2 :=
  Ctr.of (by decide) rfl (Nat.le_of_ble_eq_true rfl) (fun X C Rr => by show XW NM X 6 0 0 SH s 0 [(0, .ref 3), (1, .int v1), (2, .int v2), (3, .int v3), (4, .int v4)] []; exact w_X0_lay_0 C Rr s v1 v2 v3 v4 hf)
abbrev ws_X0_coalDownFrom : List Cond := Cond.code yX0_coalDownFrom cX0_coalDownFrom 4 (some .int) :: AW
abbrev rm_X0_coalDownFrom : Room := { frames := 2, cells := 0, slots := 0, locals := 44 }
def c_X0_coalDownFrom_7 (N : Nat) (K7 : Sg → Int32 → Int32 → Int32 → Option (Int32 × Sg)) (s : Sg) (v1 : Int32) (v2 : Int32) (v3 : Int32) : Option (Int32 × Sg) :=
if v1 < v3 then
 some (v2, s)
 else
 if (s 4 3) ≤ v3 then
 some (v2, s)
 else
 bd (f_X6_get 4 2800 s v3 ((1:Int32))) (fun r2 s1 => lt_ (v2 + r2) (fun x3 => K7 s1 v1 x3 (v3 + (1:Int32))))
set_option maxHeartbeats 4000000 in
set_option maxRecDepth 100000 in
theorem w_X0_coalDownFrom_7 {X : Ctx} {N : Nat} {o : Int32 × Sg} (C : Cx NM X cX0_coalDownFrom 4 RX0 (ws_X0_coalDownFrom) (some .int) rm_X0_coalDownFrom) (Rr : Rx NM X 0 0 (some (.int o.1)) SH o.2) {K7 : Sg → Int32 → Int32 → Int32 → Option (Int32 × Sg)} (hK7 : ∀ (s : Sg) (v1 : Int32) (v2 : Int32) (v3 : Int32), K7 s v1 v2 v3 = some o → XW NM X 4 0 0 SH s 7 [(0, .ref 3), (1, .int v1), (2, .int v2), (3, .int v3)] []) (s : Sg) (v1 : Int32) (v2 : Int32) (v3 : Int32) (hf : c_X0_coalDownFrom_7 N K7 s v1 v2 v3 = some o) : XW NM X 4 0 0 SH s 7 [(0, .ref 3), (1, .int v1), (2, .int v2), (3, .int v3)] [] := by
  unfold c_X0_coalDownFrom_7 at hf
  refine X_iload_n C 3 dX0_coalDownFrom_7 rfl rfl ?_
  refine X_iload_n C 1 dX0_coalDownFrom_8 rfl rfl ?_
  refine X_icmp_gt (tgt := 41) C dX0_coalDownFrom_9 (by decide) hf (fun hf => ?_) (fun hf => ?_)
  · refine X_iload_n C 2 dX0_coalDownFrom_41 rfl rfl ?_
    exact X_iret C dX0_coalDownFrom_42 hf Rr
  · refine X_iload_n C 3 dX0_coalDownFrom_12 rfl rfl ?_
    refine X_aload_n C 0 dX0_coalDownFrom_13 rfl rfl ?_
    refine X_getr C 0 sh_3 nc_0 inM_0 (by decide) (mc wd_5) rfl dX0_coalDownFrom_14 ?_
    refine X_getiN C 3 sh_4 nc_6 inM_6 (by decide) nf_X0_24 rfl dX0_coalDownFrom_17 ?_
    refine X_icmp_ge (tgt := 41) C dX0_coalDownFrom_20 (by decide) hf (fun hf => ?_) (fun hf => ?_)
    · refine X_iload_n C 2 dX0_coalDownFrom_41 rfl rfl ?_
      exact X_iret C dX0_coalDownFrom_42 hf Rr
    · refine X_iload_n C 2 dX0_coalDownFrom_23 rfl rfl ?_
      refine X_aload_n C 0 dX0_coalDownFrom_24 rfl rfl ?_
      refine X_getr C 0 sh_3 nc_0 inM_0 (by decide) (mc wd_5) rfl dX0_coalDownFrom_25 ?_
      refine X_iload_n C 3 dX0_coalDownFrom_28 rfl rfl ?_
      refine X_iconst (v := (1:Int32)) C dX0_coalDownFrom_29 (by decide) ?_
      refine X_callVi (As := [.int v3, .int ((1:Int32))]) (rest := [.int v2]) C aw_ok mcs lk_X0_35 sh_4 nc_6 (by decide) rfl rfl (Nat.le_of_ble_eq_true rfl) dX0_coalDownFrom_30 hf (fun r s h => k_X6_get sh_4 sh_5 _ _ _ (r, s) h) (fun r2 s1 hf => ?_)
      refine X_iadd C dX0_coalDownFrom_33 ?_
      refine X_nm hf (fun x3 hf => ?_)
      refine X_istore_n (L' := [(0, .ref 3), (1, .int v1), (2, .int x3), (3, .int v3)]) C [1, 2, 0, 3] dX0_coalDownFrom_34 rfl (by decide) rfl ?_
      refine X_iinc (v := (1:Int32)) (L' := [(0, .ref 3), (1, .int v1), (2, .int x3), (3, .int (v3 + (1:Int32)))]) C 3 [1, 2, 3, 0] dX0_coalDownFrom_35 rfl (by decide) (by decide) rfl ?_
      refine X_goto (tgt := 7) C dX0_coalDownFrom_38 (by decide) ?_
      exact hK7 _ _ _ _ hf
def b_X0_coalDownFrom_7 (N : Nat) : Nat → Sg → Int32 → Int32 → Int32 → Option (Int32 × Sg)
  | 0, _, _, _, _ => none
  | j + 1, s, v1, v2, v3 => c_X0_coalDownFrom_7 N (b_X0_coalDownFrom_7 N j) s v1 v2 v3
theorem h_X0_coalDownFrom_7 {X : Ctx} {N : Nat} {o : Int32 × Sg} (C : Cx NM X cX0_coalDownFrom 4 RX0 (ws_X0_coalDownFrom) (some .int) rm_X0_coalDownFrom) (Rr : Rx NM X 0 0 (some (.int o.1)) SH o.2) : ∀ (j : Nat) (s : Sg) (v1 : Int32) (v2 : Int32) (v3 : Int32), b_X0_coalDownFrom_7 N j s v1 v2 v3 = some o → XW NM X 4 0 0 SH s 7 [(0, .ref 3), (1, .int v1), (2, .int v2), (3, .int v3)] [] := by
  intro j
  induction j with
  | zero => intro s v1 v2 v3 hf; cases (show none = some o from hf)
  | succ j ih => intro s v1 v2 v3 hf; exact w_X0_coalDownFrom_7 C Rr ih s v1 v2 v3 hf
def c_X0_coalDownFrom_0 (N : Nat) (s : Sg) (v1 : Int32) : Option (Int32 × Sg) :=
lt_ (s 3 1) (fun x1 => b_X0_coalDownFrom_7 N N s v1 ((0:Int32)) x1)
set_option maxHeartbeats 4000000 in
set_option maxRecDepth 100000 in
theorem w_X0_coalDownFrom_0 {X : Ctx} {N : Nat} {o : Int32 × Sg} (C : Cx NM X cX0_coalDownFrom 4 RX0 (ws_X0_coalDownFrom) (some .int) rm_X0_coalDownFrom) (Rr : Rx NM X 0 0 (some (.int o.1)) SH o.2) (s : Sg) (v1 : Int32) (hf : c_X0_coalDownFrom_0 N s v1 = some o) : XW NM X 4 0 0 SH s 0 [(0, .ref 3), (1, .int v1)] [] := by
  unfold c_X0_coalDownFrom_0 at hf
  refine X_iconst (v := (0:Int32)) C dX0_coalDownFrom_0 (by decide) ?_
  refine X_istore_n (L' := [(0, .ref 3), (1, .int v1), (2, .int ((0:Int32)))]) C [1, 2, 0] dX0_coalDownFrom_1 rfl (by decide) rfl ?_
  refine X_aload_n C 0 dX0_coalDownFrom_2 rfl rfl ?_
  refine X_geti C 1 sh_3 nc_0 inM_0 (by decide) (mc wd_6) rfl dX0_coalDownFrom_3 ?_
  refine X_nm hf (fun x1 hf => ?_)
  refine X_istore_n (L' := [(0, .ref 3), (1, .int v1), (2, .int ((0:Int32))), (3, .int x1)]) C [1, 2, 3, 0] dX0_coalDownFrom_6 rfl (by decide) rfl ?_
  exact h_X0_coalDownFrom_7 C Rr _ _ _ _ _ hf
def f_X0_coalDownFrom (N : Nat) (s : Sg) (v1 : Int32) : Option (Int32 × Sg) := c_X0_coalDownFrom_0 N s v1
theorem k_X0_coalDownFrom {N : Nat} (s : Sg) (v1 : Int32) (o : Int32 × Sg) (hf : f_X0_coalDownFrom N s v1 = some o) : Ctr NM yX0_coalDownFrom (ws_X0_coalDownFrom) rm_X0_coalDownFrom SH s [.ref 3, .int v1] (some (.int o.1)) o.2 :=
  Ctr.of (by decide) rfl (Nat.le_of_ble_eq_true rfl) (fun X C Rr => by show XW NM X 4 0 0 SH s 0 [(0, .ref 3), (1, .int v1)] []; exact w_X0_coalDownFrom_0 C Rr s v1 hf)
abbrev ws_X0_burn : List Cond := Cond.code yX0_burn cX0_burn 6 (some .int) :: AW
abbrev rm_X0_burn : Room := { frames := 2, cells := 0, slots := 0, locals := 45 }
def c_X0_burn_7 (N : Nat) (K7 : Sg → Int32 → Int32 → Int32 → Option (Int32 × Sg)) (s : Sg) (v1 : Int32) (v2 : Int32) (v3 : Int32) : Option (Int32 × Sg) :=
if (s 4 3) ≤ v3 then
 some (v1 - v2, s)
 else
 if v2 ≤ 0 then
 some (v1 - v2, s)
 else
 bd (f_X6_get 4 2800 s v3 ((1:Int32))) (fun r2 s1 => lt_ ((if v2 < r2 then v2 else r2)) (fun x3 => bdv (f_X6_set 4 2800 s1 v3 ((1:Int32)) (r2 - x3)) (fun s4 => lt_ (v2 - x3) (fun x6 => K7 s4 v1 x6 (v3 + (1:Int32))))))
set_option maxHeartbeats 4000000 in
set_option maxRecDepth 100000 in
theorem w_X0_burn_7 {X : Ctx} {N : Nat} {o : Int32 × Sg} (C : Cx NM X cX0_burn 6 RX0 (ws_X0_burn) (some .int) rm_X0_burn) (Rr : Rx NM X 0 0 (some (.int o.1)) SH o.2) {K7 : Sg → Int32 → Int32 → Int32 → Option (Int32 × Sg)} (hK7 : ∀ (s : Sg) (v1 : Int32) (v2 : Int32) (v3 : Int32), K7 s v1 v2 v3 = some o → XW NM X 6 0 0 SH s 7 [(0, .ref 3), (1, .int v1), (2, .int v2), (3, .int v3)] []) (s : Sg) (v1 : Int32) (v2 : Int32) (v3 : Int32) (hf : c_X0_burn_7 N K7 s v1 v2 v3 = some o) : XW NM X 6 0 0 SH s 7 [(0, .ref 3), (1, .int v1), (2, .int v2), (3, .int v3)] [] := by
  unfold c_X0_burn_7 at hf
  refine X_iload_n C 3 dX0_burn_7 rfl rfl ?_
  refine X_aload_n C 0 dX0_burn_8 rfl rfl ?_
  refine X_getr C 0 sh_3 nc_0 inM_0 (by decide) (mc wd_5) rfl dX0_burn_9 ?_
  refine X_getiN C 3 sh_4 nc_6 inM_6 (by decide) nf_X0_24 rfl dX0_burn_12 ?_
  refine X_icmp_ge (tgt := 66) C dX0_burn_15 (by decide) hf (fun hf => ?_) (fun hf => ?_)
  · refine X_iload_n C 1 dX0_burn_66 rfl rfl ?_
    refine X_iload_n C 2 dX0_burn_67 rfl rfl ?_
    refine X_isub C dX0_burn_68 ?_
    exact X_iret C dX0_burn_69 hf Rr
  · refine X_iload_n C 2 dX0_burn_18 rfl rfl ?_
    refine X_if_le (tgt := 66) C dX0_burn_19 (by decide) hf (fun hf => ?_) (fun hf => ?_)
    · refine X_iload_n C 1 dX0_burn_66 rfl rfl ?_
      refine X_iload_n C 2 dX0_burn_67 rfl rfl ?_
      refine X_isub C dX0_burn_68 ?_
      exact X_iret C dX0_burn_69 hf Rr
    · refine X_aload_n C 0 dX0_burn_22 rfl rfl ?_
      refine X_getr C 0 sh_3 nc_0 inM_0 (by decide) (mc wd_5) rfl dX0_burn_23 ?_
      refine X_iload_n C 3 dX0_burn_26 rfl rfl ?_
      refine X_iconst (v := (1:Int32)) C dX0_burn_27 (by decide) ?_
      refine X_callVi (As := [.int v3, .int ((1:Int32))]) (rest := []) C aw_ok mcs lk_X0_35 sh_4 nc_6 (by decide) rfl rfl (Nat.le_of_ble_eq_true rfl) dX0_burn_28 hf (fun r s h => k_X6_get sh_4 sh_5 _ _ _ (r, s) h) (fun r2 s1 hf => ?_)
      refine X_istore (L' := [(0, .ref 3), (1, .int v1), (2, .int v2), (3, .int v3), (4, .int r2)]) C [1, 2, 3, 4, 0] dX0_burn_31 (by decide) rfl ?_
      refine X_iload C 4 dX0_burn_33 rfl ?_
      refine X_iload_n C 2 dX0_burn_35 rfl rfl ?_
      refine X_mmin C (mc wd_7) (mc wd_8) (mc wd_9) (mc wd_10) ⟨Nat.le_of_ble_eq_true rfl, Nat.le_of_ble_eq_true rfl, Nat.zero_le _, Nat.zero_le _⟩ dX0_burn_36 ?_
      refine X_nm hf (fun x3 hf => ?_)
      refine X_istore (L' := [(0, .ref 3), (1, .int v1), (2, .int v2), (3, .int v3), (4, .int r2), (5, .int x3)]) C [1, 2, 3, 4, 5, 0] dX0_burn_39 (by decide) rfl ?_
      refine X_aload_n C 0 dX0_burn_41 rfl rfl ?_
      refine X_getr C 0 sh_3 nc_0 inM_0 (by decide) (mc wd_5) rfl dX0_burn_42 ?_
      refine X_iload_n C 3 dX0_burn_45 rfl rfl ?_
      refine X_iconst (v := (1:Int32)) C dX0_burn_46 (by decide) ?_
      refine X_iload C 4 dX0_burn_47 rfl ?_
      refine X_iload C 5 dX0_burn_49 rfl ?_
      refine X_isub C dX0_burn_51 ?_
      refine X_callVv (As := [.int v3, .int ((1:Int32)), .int (r2 - x3)]) (rest := []) C aw_ok mcs lk_X0_31 sh_4 nc_6 (by decide) rfl rfl (Nat.le_of_ble_eq_true rfl) dX0_burn_52 hf (fun s h => k_X6_set sh_4 sh_5 _ _ _ _ s h) (fun s4 hf => ?_)
      refine X_iload_n C 2 dX0_burn_55 rfl rfl ?_
      refine X_iload C 5 dX0_burn_56 rfl ?_
      refine X_isub C dX0_burn_58 ?_
      refine X_nm hf (fun x6 hf => ?_)
      refine X_istore_n (L' := [(0, .ref 3), (1, .int v1), (2, .int x6), (3, .int v3), (4, .int r2), (5, .int x3)]) C [1, 2, 0, 3, 4, 5] dX0_burn_59 rfl (by decide) rfl ?_
      refine X_iinc (v := (1:Int32)) (L' := [(0, .ref 3), (1, .int v1), (2, .int x6), (3, .int (v3 + (1:Int32))), (4, .int r2), (5, .int x3)]) C 3 [1, 2, 3, 0, 4, 5] dX0_burn_60 rfl (by decide) (by decide) rfl ?_
      refine X_goto (tgt := 7) C dX0_burn_63 (by decide) ?_
      refine X_loc (L' := [(0, .ref 3), (1, .int v1), (2, .int x6), (3, .int (v3 + (1:Int32)))]) [0, 1, 2, 3] rfl ?_
      exact hK7 _ _ _ _ hf
def b_X0_burn_7 (N : Nat) : Nat → Sg → Int32 → Int32 → Int32 → Option (Int32 × Sg)
  | 0, _, _, _, _ => none
  | j + 1, s, v1, v2, v3 => c_X0_burn_7 N (b_X0_burn_7 N j) s v1 v2 v3
theorem h_X0_burn_7 {X : Ctx} {N : Nat} {o : Int32 × Sg} (C : Cx NM X cX0_burn 6 RX0 (ws_X0_burn) (some .int) rm_X0_burn) (Rr : Rx NM X 0 0 (some (.int o.1)) SH o.2) : ∀ (j : Nat) (s : Sg) (v1 : Int32) (v2 : Int32) (v3 : Int32), b_X0_burn_7 N j s v1 v2 v3 = some o → XW NM X 6 0 0 SH s 7 [(0, .ref 3), (1, .int v1), (2, .int v2), (3, .int v3)] [] := by
  intro j
  induction j with
  | zero => intro s v1 v2 v3 hf; cases (show none = some o from hf)
  | succ j ih => intro s v1 v2 v3 hf; exact w_X0_burn_7 C Rr ih s v1 v2 v3 hf
def c_X0_burn_0 (N : Nat) (s : Sg) (v1 : Int32) : Option (Int32 × Sg) :=
lt_ (s 3 1) (fun x1 => b_X0_burn_7 N N s v1 v1 x1)
set_option maxHeartbeats 4000000 in
set_option maxRecDepth 100000 in
theorem w_X0_burn_0 {X : Ctx} {N : Nat} {o : Int32 × Sg} (C : Cx NM X cX0_burn 6 RX0 (ws_X0_burn) (some .int) rm_X0_burn) (Rr : Rx NM X 0 0 (some (.int o.1)) SH o.2) (s : Sg) (v1 : Int32) (hf : c_X0_burn_0 N s v1 = some o) : XW NM X 6 0 0 SH s 0 [(0, .ref 3), (1, .int v1)] [] := by
  unfold c_X0_burn_0 at hf
  refine X_iload_n C 1 dX0_burn_0 rfl rfl ?_
  refine X_istore_n (L' := [(0, .ref 3), (1, .int v1), (2, .int v1)]) C [1, 2, 0] dX0_burn_1 rfl (by decide) rfl ?_
  refine X_aload_n C 0 dX0_burn_2 rfl rfl ?_
  refine X_geti C 1 sh_3 nc_0 inM_0 (by decide) (mc wd_6) rfl dX0_burn_3 ?_
  refine X_nm hf (fun x1 hf => ?_)
  refine X_istore_n (L' := [(0, .ref 3), (1, .int v1), (2, .int v1), (3, .int x1)]) C [1, 2, 3, 0] dX0_burn_6 rfl (by decide) rfl ?_
  exact h_X0_burn_7 C Rr _ _ _ _ _ hf
def f_X0_burn (N : Nat) (s : Sg) (v1 : Int32) : Option (Int32 × Sg) := c_X0_burn_0 N s v1
theorem k_X0_burn {N : Nat} (s : Sg) (v1 : Int32) (o : Int32 × Sg) (hf : f_X0_burn N s v1 = some o) : Ctr NM yX0_burn (ws_X0_burn) rm_X0_burn SH s [.ref 3, .int v1] (some (.int o.1)) o.2 :=
  Ctr.of (by decide) rfl (Nat.le_of_ble_eq_true rfl) (fun X C Rr => by show XW NM X 6 0 0 SH s 0 [(0, .ref 3), (1, .int v1)] []; exact w_X0_burn_0 C Rr s v1 hf)
abbrev ws_X0_lowestIsBurned : List Cond := Cond.code yX0_lowestIsBurned cX0_lowestIsBurned 1 (some .boolean) :: AW
abbrev rm_X0_lowestIsBurned : Room := { frames := 2, cells := 0, slots := 0, locals := 44 }
def c_X0_lowestIsBurned_0 (s : Sg) : Option (Int32 × Sg) :=
if (s 4 3) ≤ (s 3 1) then
 gd (bz ((0:Int32))) (some ((0:Int32), s))
 else
 bd (f_X6_get 4 2800 s (s 3 1) ((1:Int32))) (fun r2 s1 => if r2 = 0 then
 gd (bz ((1:Int32))) (some ((1:Int32), s1))
 else
 gd (bz ((0:Int32))) (some ((0:Int32), s1)))
set_option maxHeartbeats 4000000 in
set_option maxRecDepth 100000 in
theorem w_X0_lowestIsBurned_0 {X : Ctx} {o : Int32 × Sg} (C : Cx NM X cX0_lowestIsBurned 1 RX0 (ws_X0_lowestIsBurned) (some .boolean) rm_X0_lowestIsBurned) (Rr : Rx NM X 0 0 (some (.int o.1)) SH o.2) (s : Sg) (hf : c_X0_lowestIsBurned_0 s = some o) : XW NM X 1 0 0 SH s 0 [(0, .ref 3)] [] := by
  unfold c_X0_lowestIsBurned_0 at hf
  refine X_aload_n C 0 dX0_lowestIsBurned_0 rfl rfl ?_
  refine X_geti C 1 sh_3 nc_0 inM_0 (by decide) (mc wd_6) rfl dX0_lowestIsBurned_1 ?_
  refine X_aload_n C 0 dX0_lowestIsBurned_4 rfl rfl ?_
  refine X_getr C 0 sh_3 nc_0 inM_0 (by decide) (mc wd_5) rfl dX0_lowestIsBurned_5 ?_
  refine X_getiN C 3 sh_4 nc_6 inM_6 (by decide) nf_X0_24 rfl dX0_lowestIsBurned_8 ?_
  refine X_icmp_ge (tgt := 33) C dX0_lowestIsBurned_11 (by decide) hf (fun hf => ?_) (fun hf => ?_)
  · refine X_iconst (v := (0:Int32)) C dX0_lowestIsBurned_33 (by decide) ?_
    exact X_zret C dX0_lowestIsBurned_34 hf Rr
  · refine X_aload_n C 0 dX0_lowestIsBurned_14 rfl rfl ?_
    refine X_getr C 0 sh_3 nc_0 inM_0 (by decide) (mc wd_5) rfl dX0_lowestIsBurned_15 ?_
    refine X_aload_n C 0 dX0_lowestIsBurned_18 rfl rfl ?_
    refine X_geti C 1 sh_3 nc_0 inM_0 (by decide) (mc wd_6) rfl dX0_lowestIsBurned_19 ?_
    refine X_iconst (v := (1:Int32)) C dX0_lowestIsBurned_22 (by decide) ?_
    refine X_callVi (As := [.int (s 3 1), .int ((1:Int32))]) (rest := []) C aw_ok mcs lk_X0_35 sh_4 nc_6 (by decide) rfl rfl (Nat.le_of_ble_eq_true rfl) dX0_lowestIsBurned_23 hf (fun r s h => k_X6_get sh_4 sh_5 _ _ _ (r, s) h) (fun r2 s1 hf => ?_)
    refine X_if_ne (tgt := 33) C dX0_lowestIsBurned_26 (by decide) hf (fun hf => ?_) (fun hf => ?_)
    · refine X_iconst (v := (0:Int32)) C dX0_lowestIsBurned_33 (by decide) ?_
      exact X_zret C dX0_lowestIsBurned_34 hf Rr
    · refine X_iconst (v := (1:Int32)) C dX0_lowestIsBurned_29 (by decide) ?_
      refine X_goto (tgt := 34) C dX0_lowestIsBurned_30 (by decide) ?_
      exact X_zret C dX0_lowestIsBurned_34 hf Rr
def f_X0_lowestIsBurned (s : Sg) : Option (Int32 × Sg) := c_X0_lowestIsBurned_0 s
theorem k_X0_lowestIsBurned (s : Sg) (o : Int32 × Sg) (hf : f_X0_lowestIsBurned s = some o) : Ctr NM yX0_lowestIsBurned (ws_X0_lowestIsBurned) rm_X0_lowestIsBurned SH s [.ref 3] (some (.int o.1)) o.2 :=
  Ctr.of (by decide) rfl (Nat.le_of_ble_eq_true rfl) (fun X C Rr => by show XW NM X 1 0 0 SH s 0 [(0, .ref 3)] []; exact w_X0_lowestIsBurned_0 C Rr s hf)

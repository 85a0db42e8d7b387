abbrev ws_X5_look : List Cond := Cond.code yX5_look cX5_look 5 none :: AW
abbrev rm_X5_look : Room := { frames := 0, cells := 0, slots := 0, locals := 0 }
def c_X5_look_62 (N : Nat) (K24 : Sg → Int32 → Option (Sg)) (s : Sg) (v4 : Int32) : Option (Sg) :=
K24 s (v4 + (1:Int32))
set_option maxHeartbeats 4000000 in
set_option maxRecDepth 100000 in
theorem w_X5_look_62 {X : Ctx} {N : Nat} {o : Sg} (C : Cx NM X cX5_look 5 RX5 (ws_X5_look) none rm_X5_look) (Rr : Rx NM X 0 0 none SH o) {K24 : Sg → Int32 → Option (Sg)} (hK24 : ∀ (s : Sg) (v4 : Int32), K24 s v4 = some o → XW NM X 5 0 0 SH s 24 [(0, .ref 10), (4, .int v4)] []) (s : Sg) (v4 : Int32) (hf : c_X5_look_62 N K24 s v4 = some o) : XW NM X 5 0 0 SH s 62 [(0, .ref 10), (4, .int v4)] [] := by
  unfold c_X5_look_62 at hf
  refine X_iinc (v := (1:Int32)) (L' := [(0, .ref 10), (4, .int (v4 + (1:Int32)))]) C 1 [1, 0] dX5_look_62 rfl (by decide) (by decide) rfl ?_
  refine X_goto (tgt := 24) C dX5_look_65 (by decide) ?_
  exact hK24 _ _ hf
def c_X5_look_24 (N : Nat) (K24 : Sg → Int32 → Option (Sg)) (s : Sg) (v4 : Int32) : Option (Sg) :=
if ((3:Int32)) ≤ v4 then
 some s
 else
 gd (vi v4 3) (if 0 < (s 12 v4.toNatClampNeg) then
 gd (vi v4 3) (lt_ (sgu s 11 v4.toNatClampNeg ((-1:Int32))) (fun s1 => gd (vi v4 3) (gd (vi v4 3) (lt_ (sgu s1 12 v4.toNatClampNeg ((s1 12 v4.toNatClampNeg) - ((1:Int32)))) (fun s2 => c_X5_look_62 N K24 s2 v4)))))
 else
 c_X5_look_62 N K24 s v4)
set_option maxHeartbeats 4000000 in
set_option maxRecDepth 100000 in
theorem w_X5_look_24 {X : Ctx} {N : Nat} {o : Sg} (C : Cx NM X cX5_look 5 RX5 (ws_X5_look) none rm_X5_look) (Rr : Rx NM X 0 0 none SH o) {K24 : Sg → Int32 → Option (Sg)} (hK24 : ∀ (s : Sg) (v4 : Int32), K24 s v4 = some o → XW NM X 5 0 0 SH s 24 [(0, .ref 10), (4, .int v4)] []) (s : Sg) (v4 : Int32) (hf : c_X5_look_24 N K24 s v4 = some o) : XW NM X 5 0 0 SH s 24 [(0, .ref 10), (4, .int v4)] [] := by
  unfold c_X5_look_24 at hf
  refine X_iload C 1 dX5_look_24 rfl ?_
  refine X_iconst (v := (3:Int32)) C dX5_look_26 (by decide) ?_
  refine X_icmp_ge (tgt := 68) C dX5_look_27 (by decide) hf (fun hf => ?_) (fun hf => ?_)
  · exact X_vret C dX5_look_68 hf Rr
  · refine X_aload_n C 0 dX5_look_30 rfl rfl ?_
    refine X_getr C 1 sh_10 nc_5 inM_5 (by decide) (mc wd_35) rfl dX5_look_31 ?_
    refine X_iload C 1 dX5_look_34 rfl ?_
    refine X_iald C sh_12 dX5_look_36 hf (fun hf => ?_)
    refine X_if_gt (tgt := 43) C dX5_look_37 (by decide) hf (fun hf => ?_) (fun hf => ?_)
    · refine X_aload_n C 0 dX5_look_43 rfl rfl ?_
      refine X_getr C 0 sh_10 nc_5 inM_5 (by decide) (mc wd_34) rfl dX5_look_44 ?_
      refine X_iload C 1 dX5_look_47 rfl ?_
      refine X_iconst (v := (-1:Int32)) C dX5_look_49 (by decide) ?_
      refine X_iast C sh_11 dX5_look_50 hf (fun s1 hf => ?_)
      refine X_aload_n C 0 dX5_look_51 rfl rfl ?_
      refine X_getr C 1 sh_10 nc_5 inM_5 (by decide) (mc wd_35) rfl dX5_look_52 ?_
      refine X_iload C 1 dX5_look_55 rfl ?_
      refine X_dup2 C dX5_look_57 rfl rfl ?_
      refine X_iald C sh_12 dX5_look_58 hf (fun hf => ?_)
      refine X_iconst (v := (1:Int32)) C dX5_look_59 (by decide) ?_
      refine X_isub C dX5_look_60 ?_
      refine X_iast C sh_12 dX5_look_61 hf (fun s2 hf => ?_)
      exact w_X5_look_62 C Rr hK24 _ _ hf
    · refine X_goto (tgt := 62) C dX5_look_40 (by decide) ?_
      exact w_X5_look_62 C Rr hK24 _ _ hf
def b_X5_look_24 (N : Nat) : Nat → Sg → Int32 → Option (Sg)
  | 0, _, _ => none
  | j + 1, s, v4 => c_X5_look_24 N (b_X5_look_24 N j) s v4
theorem h_X5_look_24 {X : Ctx} {N : Nat} {o : Sg} (C : Cx NM X cX5_look 5 RX5 (ws_X5_look) none rm_X5_look) (Rr : Rx NM X 0 0 none SH o) : ∀ (j : Nat) (s : Sg) (v4 : Int32), b_X5_look_24 N j s v4 = some o → XW NM X 5 0 0 SH s 24 [(0, .ref 10), (4, .int v4)] [] := by
  intro j
  induction j with
  | zero => intro s v4 hf; cases (show none = some o from hf)
  | succ j ih => intro s v4 hf; exact w_X5_look_24 C Rr ih s v4 hf
def c_X5_look_0 (N : Nat) (s : Sg) (v1 : Int32) (v2 : Int32) (v3 : Int32) : Option (Sg) :=
gd (vi ((0:Int32)) 3) (lt_ (sgu s 11 ((0:Int32)).toNatClampNeg v1) (fun s1 => gd (vi ((1:Int32)) 3) (lt_ (sgu s1 11 ((1:Int32)).toNatClampNeg v2) (fun s2 => gd (vi ((2:Int32)) 3) (lt_ (sgu s2 11 ((2:Int32)).toNatClampNeg v3) (fun s3 => b_X5_look_24 N N s3 ((0:Int32))))))))
set_option maxHeartbeats 4000000 in
set_option maxRecDepth 100000 in
theorem w_X5_look_0 {X : Ctx} {N : Nat} {o : Sg} (C : Cx NM X cX5_look 5 RX5 (ws_X5_look) none rm_X5_look) (Rr : Rx NM X 0 0 none SH o) (s : Sg) (v1 : Int32) (v2 : Int32) (v3 : Int32) (hf : c_X5_look_0 N s v1 v2 v3 = some o) : XW NM X 5 0 0 SH s 0 [(0, .ref 10), (1, .int v1), (2, .int v2), (3, .int v3)] [] := by
  unfold c_X5_look_0 at hf
  refine X_aload_n C 0 dX5_look_0 rfl rfl ?_
  refine X_getr C 0 sh_10 nc_5 inM_5 (by decide) (mc wd_34) rfl dX5_look_1 ?_
  refine X_iconst (v := (0:Int32)) C dX5_look_4 (by decide) ?_
  refine X_iload_n C 1 dX5_look_5 rfl rfl ?_
  refine X_iast C sh_11 dX5_look_6 hf (fun s1 hf => ?_)
  refine X_aload_n C 0 dX5_look_7 rfl rfl ?_
  refine X_getr C 0 sh_10 nc_5 inM_5 (by decide) (mc wd_34) rfl dX5_look_8 ?_
  refine X_iconst (v := (1:Int32)) C dX5_look_11 (by decide) ?_
  refine X_iload_n C 2 dX5_look_12 rfl rfl ?_
  refine X_iast C sh_11 dX5_look_13 hf (fun s2 hf => ?_)
  refine X_aload_n C 0 dX5_look_14 rfl rfl ?_
  refine X_getr C 0 sh_10 nc_5 inM_5 (by decide) (mc wd_34) rfl dX5_look_15 ?_
  refine X_iconst (v := (2:Int32)) C dX5_look_18 (by decide) ?_
  refine X_iload_n C 3 dX5_look_19 rfl rfl ?_
  refine X_iast C sh_11 dX5_look_20 hf (fun s3 hf => ?_)
  refine X_iconst (v := (0:Int32)) C dX5_look_21 (by decide) ?_
  refine X_istore (L' := [(0, .ref 10), (1, .int v1), (2, .int v2), (3, .int v3), (4, .int ((0:Int32)))]) C [1, 2, 3, 4, 0] dX5_look_22 (by decide) rfl ?_
  refine X_loc (L' := [(0, .ref 10), (4, .int ((0:Int32)))]) [0, 4] rfl ?_
  exact h_X5_look_24 C Rr _ _ _ hf
def f_X5_look (N : Nat) (s : Sg) (v1 : Int32) (v2 : Int32) (v3 : Int32) : Option (Sg) := c_X5_look_0 N s v1 v2 v3
theorem k_X5_look {N : Nat} (s : Sg) (v1 : Int32) (v2 : Int32) (v3 : Int32) (o : Sg) (hf : f_X5_look N s v1 v2 v3 = some o) : Ctr NM yX5_look (ws_X5_look) rm_X5_look SH s [.ref 10, .int v1, .int v2, .int v3] none o :=
  Ctr.of (by decide) rfl (Nat.le_of_ble_eq_true rfl) (fun X C Rr => by show XW NM X 5 0 0 SH s 0 [(0, .ref 10), (1, .int v1), (2, .int v2), (3, .int v3)] []; exact w_X5_look_0 C Rr s v1 v2 v3 hf)

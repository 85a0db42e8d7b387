abbrev ws_X8_digest : List Cond := Cond.code yX8_digest cX8_digest 5 (some .long) :: AW
abbrev rm_X8_digest : Room := { frames := 2, cells := 0, slots := 0, locals := 44 }
def c_X8_digest_182 (N : Nat) (K182 : Sg → Int64 → Int32 → Option (Int64 × Sg)) (s : Sg) (v1 : Int64) (v3 : Int32) : Option (Int64 × Sg) :=
if ((3:Int32)) ≤ v3 then
 some (v1, s)
 else
 gd (vi v3 3) (lt_ ((((31:Int64)) * v1) + ((s 52 v3.toNatClampNeg).toInt64)) (fun x1 => K182 s x1 (v3 + (1:Int32))))
set_option maxHeartbeats 4000000 in
set_option maxRecDepth 100000 in
theorem w_X8_digest_182 {X : Ctx} {N : Nat} {o : Int64 × Sg} (C : Cx NM X cX8_digest 5 RX8 (ws_X8_digest) (some .long) rm_X8_digest) (Rr : Rx NM X 0 0 (some (.long o.1)) SH o.2) {K182 : Sg → Int64 → Int32 → Option (Int64 × Sg)} (hK182 : ∀ (s : Sg) (v1 : Int64) (v3 : Int32), K182 s v1 v3 = some o → XW NM X 5 0 0 SH s 182 [(0, .ref 36), (1, .long v1), (3, .int v3)] []) (s : Sg) (v1 : Int64) (v3 : Int32) (hf : c_X8_digest_182 N K182 s v1 v3 = some o) : XW NM X 5 0 0 SH s 182 [(0, .ref 36), (1, .long v1), (3, .int v3)] [] := by
  unfold c_X8_digest_182 at hf
  refine X_iload_n C 2 dX8_digest_182 rfl rfl ?_
  refine X_iconst (v := (3:Int32)) C dX8_digest_183 (by decide) ?_
  refine X_icmp_ge (tgt := 207) C dX8_digest_184 (by decide) hf (fun hf => ?_) (fun hf => ?_)
  · refine X_lload_n C 1 dX8_digest_207 rfl rfl ?_
    exact X_lret C dX8_digest_208 hf Rr
  · refine X_ldc2 (v := (31:Int64)) C (mc wd_136) dX8_digest_187 ?_
    refine X_lload_n C 1 dX8_digest_190 rfl rfl ?_
    refine X_lmul C dX8_digest_191 ?_
    refine X_aload_n C 0 dX8_digest_192 rfl rfl ?_
    refine X_getr C 34 sh_36 nc_8 inM_8 (by decide) (mc wd_108) rfl dX8_digest_193 ?_
    refine X_iload_n C 2 dX8_digest_196 rfl rfl ?_
    refine X_iald C sh_52 dX8_digest_197 hf (fun hf => ?_)
    refine X_i2l C dX8_digest_198 ?_
    refine X_ladd C dX8_digest_199 ?_
    refine X_nml hf (fun x1 hf => ?_)
    refine X_lstore_n (L' := [(0, .ref 36), (1, .long x1), (3, .int v3)]) C [1, 0, 2] dX8_digest_200 rfl (by decide) rfl ?_
    refine X_iinc (v := (1:Int32)) (L' := [(0, .ref 36), (1, .long x1), (3, .int (v3 + (1:Int32)))]) C 2 [1, 2, 0] dX8_digest_201 rfl (by decide) (by decide) rfl ?_
    refine X_goto (tgt := 182) C dX8_digest_204 (by decide) ?_
    exact hK182 _ _ _ hf
def b_X8_digest_182 (N : Nat) : Nat → Sg → Int64 → Int32 → Option (Int64 × Sg)
  | 0, _, _, _ => none
  | j + 1, s, v1, v3 => c_X8_digest_182 N (b_X8_digest_182 N j) s v1 v3
theorem h_X8_digest_182 {X : Ctx} {N : Nat} {o : Int64 × Sg} (C : Cx NM X cX8_digest 5 RX8 (ws_X8_digest) (some .long) rm_X8_digest) (Rr : Rx NM X 0 0 (some (.long o.1)) SH o.2) : ∀ (j : Nat) (s : Sg) (v1 : Int64) (v3 : Int32), b_X8_digest_182 N j s v1 v3 = some o → XW NM X 5 0 0 SH s 182 [(0, .ref 36), (1, .long v1), (3, .int v3)] [] := by
  intro j
  induction j with
  | zero => intro s v1 v3 hf; cases (show none = some o from hf)
  | succ j ih => intro s v1 v3 hf; exact w_X8_digest_182 C Rr ih s v1 v3 hf
def c_X8_digest_180 (N : Nat) (s : Sg) (v1 : Int64) : Option (Int64 × Sg) :=
b_X8_digest_182 N N s v1 ((0:Int32))
set_option maxHeartbeats 4000000 in
set_option maxRecDepth 100000 in
theorem w_X8_digest_180 {X : Ctx} {N : Nat} {o : Int64 × Sg} (C : Cx NM X cX8_digest 5 RX8 (ws_X8_digest) (some .long) rm_X8_digest) (Rr : Rx NM X 0 0 (some (.long o.1)) SH o.2) (s : Sg) (v1 : Int64) (hf : c_X8_digest_180 N s v1 = some o) : XW NM X 5 0 0 SH s 180 [(0, .ref 36), (1, .long v1)] [] := by
  unfold c_X8_digest_180 at hf
  refine X_iconst (v := (0:Int32)) C dX8_digest_180 (by decide) ?_
  refine X_istore_n (L' := [(0, .ref 36), (1, .long v1), (3, .int ((0:Int32)))]) C [1, 2, 0] dX8_digest_181 rfl (by decide) rfl ?_
  exact h_X8_digest_182 C Rr _ _ _ _ hf
def c_X8_digest_174 (N : Nat) (K135 : Sg → Int64 → Int32 → Option (Int64 × Sg)) (s : Sg) (v1 : Int64) (v3 : Int32) : Option (Int64 × Sg) :=
K135 s v1 (v3 + (1:Int32))
set_option maxHeartbeats 4000000 in
set_option maxRecDepth 100000 in
theorem w_X8_digest_174 {X : Ctx} {N : Nat} {o : Int64 × Sg} (C : Cx NM X cX8_digest 5 RX8 (ws_X8_digest) (some .long) rm_X8_digest) (Rr : Rx NM X 0 0 (some (.long o.1)) SH o.2) {K135 : Sg → Int64 → Int32 → Option (Int64 × Sg)} (hK135 : ∀ (s : Sg) (v1 : Int64) (v3 : Int32), K135 s v1 v3 = some o → XW NM X 5 0 0 SH s 135 [(0, .ref 36), (1, .long v1), (3, .int v3)] []) (s : Sg) (v1 : Int64) (v3 : Int32) (hf : c_X8_digest_174 N K135 s v1 v3 = some o) : XW NM X 5 0 0 SH s 174 [(0, .ref 36), (1, .long v1), (3, .int v3)] [] := by
  unfold c_X8_digest_174 at hf
  refine X_iinc (v := (1:Int32)) (L' := [(0, .ref 36), (1, .long v1), (3, .int (v3 + (1:Int32)))]) C 2 [1, 2, 0] dX8_digest_174 rfl (by decide) (by decide) rfl ?_
  refine X_goto (tgt := 135) C dX8_digest_177 (by decide) ?_
  exact hK135 _ _ _ hf
def c_X8_digest_146 (N : Nat) (K135 : Sg → Int64 → Int32 → Option (Int64 × Sg)) (K146 : Sg → Int64 → Int32 → Int32 → Option (Int64 × Sg)) (s : Sg) (v1 : Int64) (v3 : Int32) (v4 : Int32) : Option (Int64 × Sg) :=
if ((6:Int32)) ≤ v4 then
 c_X8_digest_174 N K135 s v1 v3
 else
 bd (f_X8_pig s v3 v4) (fun r2 s1 => lt_ ((((31:Int64)) * v1) + r2.toInt64) (fun x3 => K146 s1 x3 v3 (v4 + (1:Int32))))
set_option maxHeartbeats 4000000 in
set_option maxRecDepth 100000 in
theorem w_X8_digest_146 {X : Ctx} {N : Nat} {o : Int64 × Sg} (C : Cx NM X cX8_digest 5 RX8 (ws_X8_digest) (some .long) rm_X8_digest) (Rr : Rx NM X 0 0 (some (.long o.1)) SH o.2) {K135 : Sg → Int64 → Int32 → Option (Int64 × Sg)} (hK135 : ∀ (s : Sg) (v1 : Int64) (v3 : Int32), K135 s v1 v3 = some o → XW NM X 5 0 0 SH s 135 [(0, .ref 36), (1, .long v1), (3, .int v3)] []) {K146 : Sg → Int64 → Int32 → Int32 → Option (Int64 × Sg)} (hK146 : ∀ (s : Sg) (v1 : Int64) (v3 : Int32) (v4 : Int32), K146 s v1 v3 v4 = some o → XW NM X 5 0 0 SH s 146 [(0, .ref 36), (1, .long v1), (3, .int v3), (4, .int v4)] []) (s : Sg) (v1 : Int64) (v3 : Int32) (v4 : Int32) (hf : c_X8_digest_146 N K135 K146 s v1 v3 v4 = some o) : XW NM X 5 0 0 SH s 146 [(0, .ref 36), (1, .long v1), (3, .int v3), (4, .int v4)] [] := by
  unfold c_X8_digest_146 at hf
  refine X_iload C 3 dX8_digest_146 rfl ?_
  refine X_bipush (v := (6:Int32)) C dX8_digest_148 (by decide) ?_
  refine X_icmp_ge (tgt := 174) C dX8_digest_150 (by decide) hf (fun hf => ?_) (fun hf => ?_)
  · refine X_loc (L' := [(0, .ref 36), (1, .long v1), (3, .int v3)]) [0, 1, 2] rfl ?_
    exact w_X8_digest_174 C Rr hK135 _ _ _ hf
  · refine X_ldc2 (v := (31:Int64)) C (mc wd_136) dX8_digest_153 ?_
    refine X_lload_n C 1 dX8_digest_156 rfl rfl ?_
    refine X_lmul C dX8_digest_157 ?_
    refine X_aload_n C 0 dX8_digest_158 rfl rfl ?_
    refine X_iload_n C 2 dX8_digest_159 rfl rfl ?_
    refine X_iload C 3 dX8_digest_160 rfl ?_
    refine X_callVi (As := [.int v3, .int v4]) (rest := [.long (((31:Int64)) * v1)]) C aw_ok mcs lk_X8_235 sh_36 nc_8 (by decide) rfl rfl (Nat.le_of_ble_eq_true rfl) dX8_digest_162 hf (fun r s h => k_X8_pig _ _ _ (r, s) h) (fun r2 s1 hf => ?_)
    refine X_i2l C dX8_digest_165 ?_
    refine X_ladd C dX8_digest_166 ?_
    refine X_nml hf (fun x3 hf => ?_)
    refine X_lstore_n (L' := [(0, .ref 36), (1, .long x3), (3, .int v3), (4, .int v4)]) C [1, 0, 2, 3] dX8_digest_167 rfl (by decide) rfl ?_
    refine X_iinc (v := (1:Int32)) (L' := [(0, .ref 36), (1, .long x3), (3, .int v3), (4, .int (v4 + (1:Int32)))]) C 3 [1, 2, 3, 0] dX8_digest_168 rfl (by decide) (by decide) rfl ?_
    refine X_goto (tgt := 146) C dX8_digest_171 (by decide) ?_
    exact hK146 _ _ _ _ hf
def b_X8_digest_146 (N : Nat) (K135 : Sg → Int64 → Int32 → Option (Int64 × Sg)) : Nat → Sg → Int64 → Int32 → Int32 → Option (Int64 × Sg)
  | 0, _, _, _, _ => none
  | j + 1, s, v1, v3, v4 => c_X8_digest_146 N K135 (b_X8_digest_146 N K135 j) s v1 v3 v4
theorem h_X8_digest_146 {X : Ctx} {N : Nat} {o : Int64 × Sg} (C : Cx NM X cX8_digest 5 RX8 (ws_X8_digest) (some .long) rm_X8_digest) (Rr : Rx NM X 0 0 (some (.long o.1)) SH o.2) {K135 : Sg → Int64 → Int32 → Option (Int64 × Sg)} (hK135 : ∀ (s : Sg) (v1 : Int64) (v3 : Int32), K135 s v1 v3 = some o → XW NM X 5 0 0 SH s 135 [(0, .ref 36), (1, .long v1), (3, .int v3)] []) : ∀ (j : Nat) (s : Sg) (v1 : Int64) (v3 : Int32) (v4 : Int32), b_X8_digest_146 N K135 j s v1 v3 v4 = some o → XW NM X 5 0 0 SH s 146 [(0, .ref 36), (1, .long v1), (3, .int v3), (4, .int v4)] [] := by
  intro j
  induction j with
  | zero => intro s v1 v3 v4 hf; cases (show none = some o from hf)
  | succ j ih => intro s v1 v3 v4 hf; exact w_X8_digest_146 C Rr hK135 ih s v1 v3 v4 hf
def c_X8_digest_135 (N : Nat) (K135 : Sg → Int64 → Int32 → Option (Int64 × Sg)) (s : Sg) (v1 : Int64) (v3 : Int32) : Option (Int64 × Sg) :=
if (s 36 27) ≤ v3 then
 c_X8_digest_180 N s v1
 else
 b_X8_digest_146 N K135 N s v1 v3 ((0:Int32))
set_option maxHeartbeats 4000000 in
set_option maxRecDepth 100000 in
theorem w_X8_digest_135 {X : Ctx} {N : Nat} {o : Int64 × Sg} (C : Cx NM X cX8_digest 5 RX8 (ws_X8_digest) (some .long) rm_X8_digest) (Rr : Rx NM X 0 0 (some (.long o.1)) SH o.2) {K135 : Sg → Int64 → Int32 → Option (Int64 × Sg)} (hK135 : ∀ (s : Sg) (v1 : Int64) (v3 : Int32), K135 s v1 v3 = some o → XW NM X 5 0 0 SH s 135 [(0, .ref 36), (1, .long v1), (3, .int v3)] []) (s : Sg) (v1 : Int64) (v3 : Int32) (hf : c_X8_digest_135 N K135 s v1 v3 = some o) : XW NM X 5 0 0 SH s 135 [(0, .ref 36), (1, .long v1), (3, .int v3)] [] := by
  unfold c_X8_digest_135 at hf
  refine X_iload_n C 2 dX8_digest_135 rfl rfl ?_
  refine X_aload_n C 0 dX8_digest_136 rfl rfl ?_
  refine X_geti C 27 sh_36 nc_8 inM_8 (by decide) (mc wd_93) rfl dX8_digest_137 ?_
  refine X_icmp_ge (tgt := 180) C dX8_digest_140 (by decide) hf (fun hf => ?_) (fun hf => ?_)
  · refine X_loc (L' := [(0, .ref 36), (1, .long v1)]) [0, 1] rfl ?_
    exact w_X8_digest_180 C Rr _ _ hf
  · refine X_iconst (v := (0:Int32)) C dX8_digest_143 (by decide) ?_
    refine X_istore (L' := [(0, .ref 36), (1, .long v1), (3, .int v3), (4, .int ((0:Int32)))]) C [1, 2, 3, 0] dX8_digest_144 (by decide) rfl ?_
    exact h_X8_digest_146 C Rr hK135 _ _ _ _ _ hf
def b_X8_digest_135 (N : Nat) : Nat → Sg → Int64 → Int32 → Option (Int64 × Sg)
  | 0, _, _, _ => none
  | j + 1, s, v1, v3 => c_X8_digest_135 N (b_X8_digest_135 N j) s v1 v3
theorem h_X8_digest_135 {X : Ctx} {N : Nat} {o : Int64 × Sg} (C : Cx NM X cX8_digest 5 RX8 (ws_X8_digest) (some .long) rm_X8_digest) (Rr : Rx NM X 0 0 (some (.long o.1)) SH o.2) : ∀ (j : Nat) (s : Sg) (v1 : Int64) (v3 : Int32), b_X8_digest_135 N j s v1 v3 = some o → XW NM X 5 0 0 SH s 135 [(0, .ref 36), (1, .long v1), (3, .int v3)] [] := by
  intro j
  induction j with
  | zero => intro s v1 v3 hf; cases (show none = some o from hf)
  | succ j ih => intro s v1 v3 hf; exact w_X8_digest_135 C Rr ih s v1 v3 hf
def c_X8_digest_133 (N : Nat) (s : Sg) (v1 : Int64) : Option (Int64 × Sg) :=
b_X8_digest_135 N N s v1 ((0:Int32))
set_option maxHeartbeats 4000000 in
set_option maxRecDepth 100000 in
theorem w_X8_digest_133 {X : Ctx} {N : Nat} {o : Int64 × Sg} (C : Cx NM X cX8_digest 5 RX8 (ws_X8_digest) (some .long) rm_X8_digest) (Rr : Rx NM X 0 0 (some (.long o.1)) SH o.2) (s : Sg) (v1 : Int64) (hf : c_X8_digest_133 N s v1 = some o) : XW NM X 5 0 0 SH s 133 [(0, .ref 36), (1, .long v1)] [] := by
  unfold c_X8_digest_133 at hf
  refine X_iconst (v := (0:Int32)) C dX8_digest_133 (by decide) ?_
  refine X_istore_n (L' := [(0, .ref 36), (1, .long v1), (3, .int ((0:Int32)))]) C [1, 2, 0] dX8_digest_134 rfl (by decide) rfl ?_
  exact h_X8_digest_135 C Rr _ _ _ _ hf
def c_X8_digest_127 (N : Nat) (K88 : Sg → Int64 → Int32 → Option (Int64 × Sg)) (s : Sg) (v1 : Int64) (v3 : Int32) : Option (Int64 × Sg) :=
K88 s v1 (v3 + (1:Int32))
set_option maxHeartbeats 4000000 in
set_option maxRecDepth 100000 in
theorem w_X8_digest_127 {X : Ctx} {N : Nat} {o : Int64 × Sg} (C : Cx NM X cX8_digest 5 RX8 (ws_X8_digest) (some .long) rm_X8_digest) (Rr : Rx NM X 0 0 (some (.long o.1)) SH o.2) {K88 : Sg → Int64 → Int32 → Option (Int64 × Sg)} (hK88 : ∀ (s : Sg) (v1 : Int64) (v3 : Int32), K88 s v1 v3 = some o → XW NM X 5 0 0 SH s 88 [(0, .ref 36), (1, .long v1), (3, .int v3)] []) (s : Sg) (v1 : Int64) (v3 : Int32) (hf : c_X8_digest_127 N K88 s v1 v3 = some o) : XW NM X 5 0 0 SH s 127 [(0, .ref 36), (1, .long v1), (3, .int v3)] [] := by
  unfold c_X8_digest_127 at hf
  refine X_iinc (v := (1:Int32)) (L' := [(0, .ref 36), (1, .long v1), (3, .int (v3 + (1:Int32)))]) C 2 [1, 2, 0] dX8_digest_127 rfl (by decide) (by decide) rfl ?_
  refine X_goto (tgt := 88) C dX8_digest_130 (by decide) ?_
  exact hK88 _ _ _ hf
def c_X8_digest_99 (N : Nat) (K88 : Sg → Int64 → Int32 → Option (Int64 × Sg)) (K99 : Sg → Int64 → Int32 → Int32 → Option (Int64 × Sg)) (s : Sg) (v1 : Int64) (v3 : Int32) (v4 : Int32) : Option (Int64 × Sg) :=
if ((7:Int32)) ≤ v4 then
 c_X8_digest_127 N K88 s v1 v3
 else
 bd (f_X8_chargeAt s v3 v4) (fun r2 s1 => lt_ ((((31:Int64)) * v1) + r2.toInt64) (fun x3 => K99 s1 x3 v3 (v4 + (1:Int32))))
set_option maxHeartbeats 4000000 in
set_option maxRecDepth 100000 in
theorem w_X8_digest_99 {X : Ctx} {N : Nat} {o : Int64 × Sg} (C : Cx NM X cX8_digest 5 RX8 (ws_X8_digest) (some .long) rm_X8_digest) (Rr : Rx NM X 0 0 (some (.long o.1)) SH o.2) {K88 : Sg → Int64 → Int32 → Option (Int64 × Sg)} (hK88 : ∀ (s : Sg) (v1 : Int64) (v3 : Int32), K88 s v1 v3 = some o → XW NM X 5 0 0 SH s 88 [(0, .ref 36), (1, .long v1), (3, .int v3)] []) {K99 : Sg → Int64 → Int32 → Int32 → Option (Int64 × Sg)} (hK99 : ∀ (s : Sg) (v1 : Int64) (v3 : Int32) (v4 : Int32), K99 s v1 v3 v4 = some o → XW NM X 5 0 0 SH s 99 [(0, .ref 36), (1, .long v1), (3, .int v3), (4, .int v4)] []) (s : Sg) (v1 : Int64) (v3 : Int32) (v4 : Int32) (hf : c_X8_digest_99 N K88 K99 s v1 v3 v4 = some o) : XW NM X 5 0 0 SH s 99 [(0, .ref 36), (1, .long v1), (3, .int v3), (4, .int v4)] [] := by
  unfold c_X8_digest_99 at hf
  refine X_iload C 3 dX8_digest_99 rfl ?_
  refine X_bipush (v := (7:Int32)) C dX8_digest_101 (by decide) ?_
  refine X_icmp_ge (tgt := 127) C dX8_digest_103 (by decide) hf (fun hf => ?_) (fun hf => ?_)
  · refine X_loc (L' := [(0, .ref 36), (1, .long v1), (3, .int v3)]) [0, 1, 2] rfl ?_
    exact w_X8_digest_127 C Rr hK88 _ _ _ hf
  · refine X_ldc2 (v := (31:Int64)) C (mc wd_136) dX8_digest_106 ?_
    refine X_lload_n C 1 dX8_digest_109 rfl rfl ?_
    refine X_lmul C dX8_digest_110 ?_
    refine X_aload_n C 0 dX8_digest_111 rfl rfl ?_
    refine X_iload_n C 2 dX8_digest_112 rfl rfl ?_
    refine X_iload C 3 dX8_digest_113 rfl ?_
    refine X_callVi (As := [.int v3, .int v4]) (rest := [.long (((31:Int64)) * v1)]) C aw_ok mcs lk_X8_232 sh_36 nc_8 (by decide) rfl rfl (Nat.le_of_ble_eq_true rfl) dX8_digest_115 hf (fun r s h => k_X8_chargeAt _ _ _ (r, s) h) (fun r2 s1 hf => ?_)
    refine X_i2l C dX8_digest_118 ?_
    refine X_ladd C dX8_digest_119 ?_
    refine X_nml hf (fun x3 hf => ?_)
    refine X_lstore_n (L' := [(0, .ref 36), (1, .long x3), (3, .int v3), (4, .int v4)]) C [1, 0, 2, 3] dX8_digest_120 rfl (by decide) rfl ?_
    refine X_iinc (v := (1:Int32)) (L' := [(0, .ref 36), (1, .long x3), (3, .int v3), (4, .int (v4 + (1:Int32)))]) C 3 [1, 2, 3, 0] dX8_digest_121 rfl (by decide) (by decide) rfl ?_
    refine X_goto (tgt := 99) C dX8_digest_124 (by decide) ?_
    exact hK99 _ _ _ _ hf
def b_X8_digest_99 (N : Nat) (K88 : Sg → Int64 → Int32 → Option (Int64 × Sg)) : Nat → Sg → Int64 → Int32 → Int32 → Option (Int64 × Sg)
  | 0, _, _, _, _ => none
  | j + 1, s, v1, v3, v4 => c_X8_digest_99 N K88 (b_X8_digest_99 N K88 j) s v1 v3 v4
theorem h_X8_digest_99 {X : Ctx} {N : Nat} {o : Int64 × Sg} (C : Cx NM X cX8_digest 5 RX8 (ws_X8_digest) (some .long) rm_X8_digest) (Rr : Rx NM X 0 0 (some (.long o.1)) SH o.2) {K88 : Sg → Int64 → Int32 → Option (Int64 × Sg)} (hK88 : ∀ (s : Sg) (v1 : Int64) (v3 : Int32), K88 s v1 v3 = some o → XW NM X 5 0 0 SH s 88 [(0, .ref 36), (1, .long v1), (3, .int v3)] []) : ∀ (j : Nat) (s : Sg) (v1 : Int64) (v3 : Int32) (v4 : Int32), b_X8_digest_99 N K88 j s v1 v3 v4 = some o → XW NM X 5 0 0 SH s 99 [(0, .ref 36), (1, .long v1), (3, .int v3), (4, .int v4)] [] := by
  intro j
  induction j with
  | zero => intro s v1 v3 v4 hf; cases (show none = some o from hf)
  | succ j ih => intro s v1 v3 v4 hf; exact w_X8_digest_99 C Rr hK88 ih s v1 v3 v4 hf
def c_X8_digest_88 (N : Nat) (K88 : Sg → Int64 → Int32 → Option (Int64 × Sg)) (s : Sg) (v1 : Int64) (v3 : Int32) : Option (Int64 × Sg) :=
if (s 36 2) ≤ v3 then
 c_X8_digest_133 N s v1
 else
 b_X8_digest_99 N K88 N s v1 v3 ((0:Int32))
set_option maxHeartbeats 4000000 in
set_option maxRecDepth 100000 in
theorem w_X8_digest_88 {X : Ctx} {N : Nat} {o : Int64 × Sg} (C : Cx NM X cX8_digest 5 RX8 (ws_X8_digest) (some .long) rm_X8_digest) (Rr : Rx NM X 0 0 (some (.long o.1)) SH o.2) {K88 : Sg → Int64 → Int32 → Option (Int64 × Sg)} (hK88 : ∀ (s : Sg) (v1 : Int64) (v3 : Int32), K88 s v1 v3 = some o → XW NM X 5 0 0 SH s 88 [(0, .ref 36), (1, .long v1), (3, .int v3)] []) (s : Sg) (v1 : Int64) (v3 : Int32) (hf : c_X8_digest_88 N K88 s v1 v3 = some o) : XW NM X 5 0 0 SH s 88 [(0, .ref 36), (1, .long v1), (3, .int v3)] [] := by
  unfold c_X8_digest_88 at hf
  refine X_iload_n C 2 dX8_digest_88 rfl rfl ?_
  refine X_aload_n C 0 dX8_digest_89 rfl rfl ?_
  refine X_geti C 2 sh_36 nc_8 inM_8 (by decide) (mc wd_79) rfl dX8_digest_90 ?_
  refine X_icmp_ge (tgt := 133) C dX8_digest_93 (by decide) hf (fun hf => ?_) (fun hf => ?_)
  · refine X_loc (L' := [(0, .ref 36), (1, .long v1)]) [0, 1] rfl ?_
    exact w_X8_digest_133 C Rr _ _ hf
  · refine X_iconst (v := (0:Int32)) C dX8_digest_96 (by decide) ?_
    refine X_istore (L' := [(0, .ref 36), (1, .long v1), (3, .int v3), (4, .int ((0:Int32)))]) C [1, 2, 3, 0] dX8_digest_97 (by decide) rfl ?_
    exact h_X8_digest_99 C Rr hK88 _ _ _ _ _ hf
def b_X8_digest_88 (N : Nat) : Nat → Sg → Int64 → Int32 → Option (Int64 × Sg)
  | 0, _, _, _ => none
  | j + 1, s, v1, v3 => c_X8_digest_88 N (b_X8_digest_88 N j) s v1 v3
theorem h_X8_digest_88 {X : Ctx} {N : Nat} {o : Int64 × Sg} (C : Cx NM X cX8_digest 5 RX8 (ws_X8_digest) (some .long) rm_X8_digest) (Rr : Rx NM X 0 0 (some (.long o.1)) SH o.2) : ∀ (j : Nat) (s : Sg) (v1 : Int64) (v3 : Int32), b_X8_digest_88 N j s v1 v3 = some o → XW NM X 5 0 0 SH s 88 [(0, .ref 36), (1, .long v1), (3, .int v3)] [] := by
  intro j
  induction j with
  | zero => intro s v1 v3 hf; cases (show none = some o from hf)
  | succ j ih => intro s v1 v3 hf; exact w_X8_digest_88 C Rr ih s v1 v3 hf
def c_X8_digest_86 (N : Nat) (s : Sg) (v1 : Int64) : Option (Int64 × Sg) :=
b_X8_digest_88 N N s v1 ((0:Int32))
set_option maxHeartbeats 4000000 in
set_option maxRecDepth 100000 in
theorem w_X8_digest_86 {X : Ctx} {N : Nat} {o : Int64 × Sg} (C : Cx NM X cX8_digest 5 RX8 (ws_X8_digest) (some .long) rm_X8_digest) (Rr : Rx NM X 0 0 (some (.long o.1)) SH o.2) (s : Sg) (v1 : Int64) (hf : c_X8_digest_86 N s v1 = some o) : XW NM X 5 0 0 SH s 86 [(0, .ref 36), (1, .long v1)] [] := by
  unfold c_X8_digest_86 at hf
  refine X_iconst (v := (0:Int32)) C dX8_digest_86 (by decide) ?_
  refine X_istore_n (L' := [(0, .ref 36), (1, .long v1), (3, .int ((0:Int32)))]) C [1, 2, 0] dX8_digest_87 rfl (by decide) rfl ?_
  exact h_X8_digest_88 C Rr _ _ _ _ hf
def c_X8_digest_60 (N : Nat) (K60 : Sg → Int64 → Int32 → Option (Int64 × Sg)) (s : Sg) (v1 : Int64) (v3 : Int32) : Option (Int64 × Sg) :=
if ((6:Int32)) ≤ v3 then
 c_X8_digest_86 N s v1
 else
 gd (vi v3 6) (lt_ ((((31:Int64)) * v1) + ((s 37 v3.toNatClampNeg).toInt64)) (fun x1 => K60 s x1 (v3 + (1:Int32))))
set_option maxHeartbeats 4000000 in
set_option maxRecDepth 100000 in
theorem w_X8_digest_60 {X : Ctx} {N : Nat} {o : Int64 × Sg} (C : Cx NM X cX8_digest 5 RX8 (ws_X8_digest) (some .long) rm_X8_digest) (Rr : Rx NM X 0 0 (some (.long o.1)) SH o.2) {K60 : Sg → Int64 → Int32 → Option (Int64 × Sg)} (hK60 : ∀ (s : Sg) (v1 : Int64) (v3 : Int32), K60 s v1 v3 = some o → XW NM X 5 0 0 SH s 60 [(0, .ref 36), (1, .long v1), (3, .int v3)] []) (s : Sg) (v1 : Int64) (v3 : Int32) (hf : c_X8_digest_60 N K60 s v1 v3 = some o) : XW NM X 5 0 0 SH s 60 [(0, .ref 36), (1, .long v1), (3, .int v3)] [] := by
  unfold c_X8_digest_60 at hf
  refine X_iload_n C 2 dX8_digest_60 rfl rfl ?_
  refine X_bipush (v := (6:Int32)) C dX8_digest_61 (by decide) ?_
  refine X_icmp_ge (tgt := 86) C dX8_digest_63 (by decide) hf (fun hf => ?_) (fun hf => ?_)
  · refine X_loc (L' := [(0, .ref 36), (1, .long v1)]) [0, 1] rfl ?_
    exact w_X8_digest_86 C Rr _ _ hf
  · refine X_ldc2 (v := (31:Int64)) C (mc wd_136) dX8_digest_66 ?_
    refine X_lload_n C 1 dX8_digest_69 rfl rfl ?_
    refine X_lmul C dX8_digest_70 ?_
    refine X_aload_n C 0 dX8_digest_71 rfl rfl ?_
    refine X_getr C 0 sh_36 nc_8 inM_8 (by decide) (mc wd_77) rfl dX8_digest_72 ?_
    refine X_iload_n C 2 dX8_digest_75 rfl rfl ?_
    refine X_iald C sh_37 dX8_digest_76 hf (fun hf => ?_)
    refine X_i2l C dX8_digest_77 ?_
    refine X_ladd C dX8_digest_78 ?_
    refine X_nml hf (fun x1 hf => ?_)
    refine X_lstore_n (L' := [(0, .ref 36), (1, .long x1), (3, .int v3)]) C [1, 0, 2] dX8_digest_79 rfl (by decide) rfl ?_
    refine X_iinc (v := (1:Int32)) (L' := [(0, .ref 36), (1, .long x1), (3, .int (v3 + (1:Int32)))]) C 2 [1, 2, 0] dX8_digest_80 rfl (by decide) (by decide) rfl ?_
    refine X_goto (tgt := 60) C dX8_digest_83 (by decide) ?_
    exact hK60 _ _ _ hf
def b_X8_digest_60 (N : Nat) : Nat → Sg → Int64 → Int32 → Option (Int64 × Sg)
  | 0, _, _, _ => none
  | j + 1, s, v1, v3 => c_X8_digest_60 N (b_X8_digest_60 N j) s v1 v3
theorem h_X8_digest_60 {X : Ctx} {N : Nat} {o : Int64 × Sg} (C : Cx NM X cX8_digest 5 RX8 (ws_X8_digest) (some .long) rm_X8_digest) (Rr : Rx NM X 0 0 (some (.long o.1)) SH o.2) : ∀ (j : Nat) (s : Sg) (v1 : Int64) (v3 : Int32), b_X8_digest_60 N j s v1 v3 = some o → XW NM X 5 0 0 SH s 60 [(0, .ref 36), (1, .long v1), (3, .int v3)] [] := by
  intro j
  induction j with
  | zero => intro s v1 v3 hf; cases (show none = some o from hf)
  | succ j ih => intro s v1 v3 hf; exact w_X8_digest_60 C Rr ih s v1 v3 hf
def c_X8_digest_58 (N : Nat) (s : Sg) (v1 : Int64) : Option (Int64 × Sg) :=
b_X8_digest_60 N N s v1 ((0:Int32))
set_option maxHeartbeats 4000000 in
set_option maxRecDepth 100000 in
theorem w_X8_digest_58 {X : Ctx} {N : Nat} {o : Int64 × Sg} (C : Cx NM X cX8_digest 5 RX8 (ws_X8_digest) (some .long) rm_X8_digest) (Rr : Rx NM X 0 0 (some (.long o.1)) SH o.2) (s : Sg) (v1 : Int64) (hf : c_X8_digest_58 N s v1 = some o) : XW NM X 5 0 0 SH s 58 [(0, .ref 36), (1, .long v1)] [] := by
  unfold c_X8_digest_58 at hf
  refine X_iconst (v := (0:Int32)) C dX8_digest_58 (by decide) ?_
  refine X_istore_n (L' := [(0, .ref 36), (1, .long v1), (3, .int ((0:Int32)))]) C [1, 2, 0] dX8_digest_59 rfl (by decide) rfl ?_
  exact h_X8_digest_60 C Rr _ _ _ _ hf
def c_X8_digest_33 (N : Nat) (K33 : Sg → Int64 → Int32 → Option (Int64 × Sg)) (s : Sg) (v1 : Int64) (v3 : Int32) : Option (Int64 × Sg) :=
if ((12:Int32)) ≤ v3 then
 c_X8_digest_58 N s v1
 else
 bd (f_X8_about s v3) (fun r2 s1 => lt_ ((((31:Int64)) * v1) + r2.toInt64) (fun x3 => K33 s1 x3 (v3 + (1:Int32))))
set_option maxHeartbeats 4000000 in
set_option maxRecDepth 100000 in
theorem w_X8_digest_33 {X : Ctx} {N : Nat} {o : Int64 × Sg} (C : Cx NM X cX8_digest 5 RX8 (ws_X8_digest) (some .long) rm_X8_digest) (Rr : Rx NM X 0 0 (some (.long o.1)) SH o.2) {K33 : Sg → Int64 → Int32 → Option (Int64 × Sg)} (hK33 : ∀ (s : Sg) (v1 : Int64) (v3 : Int32), K33 s v1 v3 = some o → XW NM X 5 0 0 SH s 33 [(0, .ref 36), (1, .long v1), (3, .int v3)] []) (s : Sg) (v1 : Int64) (v3 : Int32) (hf : c_X8_digest_33 N K33 s v1 v3 = some o) : XW NM X 5 0 0 SH s 33 [(0, .ref 36), (1, .long v1), (3, .int v3)] [] := by
  unfold c_X8_digest_33 at hf
  refine X_iload_n C 2 dX8_digest_33 rfl rfl ?_
  refine X_bipush (v := (12:Int32)) C dX8_digest_34 (by decide) ?_
  refine X_icmp_ge (tgt := 58) C dX8_digest_36 (by decide) hf (fun hf => ?_) (fun hf => ?_)
  · refine X_loc (L' := [(0, .ref 36), (1, .long v1)]) [0, 1] rfl ?_
    exact w_X8_digest_58 C Rr _ _ hf
  · refine X_ldc2 (v := (31:Int64)) C (mc wd_136) dX8_digest_39 ?_
    refine X_lload_n C 1 dX8_digest_42 rfl rfl ?_
    refine X_lmul C dX8_digest_43 ?_
    refine X_aload_n C 0 dX8_digest_44 rfl rfl ?_
    refine X_iload_n C 2 dX8_digest_45 rfl rfl ?_
    refine X_callVi (As := [.int v3]) (rest := [.long (((31:Int64)) * v1)]) C aw_ok mcs lk_X8_229 sh_36 nc_8 (by decide) rfl rfl (Nat.le_of_ble_eq_true rfl) dX8_digest_46 hf (fun r s h => k_X8_about _ _ (r, s) h) (fun r2 s1 hf => ?_)
    refine X_i2l C dX8_digest_49 ?_
    refine X_ladd C dX8_digest_50 ?_
    refine X_nml hf (fun x3 hf => ?_)
    refine X_lstore_n (L' := [(0, .ref 36), (1, .long x3), (3, .int v3)]) C [1, 0, 2] dX8_digest_51 rfl (by decide) rfl ?_
    refine X_iinc (v := (1:Int32)) (L' := [(0, .ref 36), (1, .long x3), (3, .int (v3 + (1:Int32)))]) C 2 [1, 2, 0] dX8_digest_52 rfl (by decide) (by decide) rfl ?_
    refine X_goto (tgt := 33) C dX8_digest_55 (by decide) ?_
    exact hK33 _ _ _ hf
def b_X8_digest_33 (N : Nat) : Nat → Sg → Int64 → Int32 → Option (Int64 × Sg)
  | 0, _, _, _ => none
  | j + 1, s, v1, v3 => c_X8_digest_33 N (b_X8_digest_33 N j) s v1 v3
theorem h_X8_digest_33 {X : Ctx} {N : Nat} {o : Int64 × Sg} (C : Cx NM X cX8_digest 5 RX8 (ws_X8_digest) (some .long) rm_X8_digest) (Rr : Rx NM X 0 0 (some (.long o.1)) SH o.2) : ∀ (j : Nat) (s : Sg) (v1 : Int64) (v3 : Int32), b_X8_digest_33 N j s v1 v3 = some o → XW NM X 5 0 0 SH s 33 [(0, .ref 36), (1, .long v1), (3, .int v3)] [] := by
  intro j
  induction j with
  | zero => intro s v1 v3 hf; cases (show none = some o from hf)
  | succ j ih => intro s v1 v3 hf; exact w_X8_digest_33 C Rr ih s v1 v3 hf
def c_X8_digest_31 (N : Nat) (s : Sg) (v1 : Int64) : Option (Int64 × Sg) :=
b_X8_digest_33 N N s v1 ((0:Int32))
set_option maxHeartbeats 4000000 in
set_option maxRecDepth 100000 in
theorem w_X8_digest_31 {X : Ctx} {N : Nat} {o : Int64 × Sg} (C : Cx NM X cX8_digest 5 RX8 (ws_X8_digest) (some .long) rm_X8_digest) (Rr : Rx NM X 0 0 (some (.long o.1)) SH o.2) (s : Sg) (v1 : Int64) (hf : c_X8_digest_31 N s v1 = some o) : XW NM X 5 0 0 SH s 31 [(0, .ref 36), (1, .long v1)] [] := by
  unfold c_X8_digest_31 at hf
  refine X_iconst (v := (0:Int32)) C dX8_digest_31 (by decide) ?_
  refine X_istore_n (L' := [(0, .ref 36), (1, .long v1), (3, .int ((0:Int32)))]) C [1, 2, 0] dX8_digest_32 rfl (by decide) rfl ?_
  exact h_X8_digest_33 C Rr _ _ _ _ hf
def c_X8_digest_6 (N : Nat) (K6 : Sg → Int64 → Int32 → Option (Int64 × Sg)) (s : Sg) (v1 : Int64) (v3 : Int32) : Option (Int64 × Sg) :=
if ((6:Int32)) ≤ v3 then
 c_X8_digest_31 N s v1
 else
 bd (f_X8_count N s v3) (fun r2 s1 => lt_ ((((31:Int64)) * v1) + r2.toInt64) (fun x3 => K6 s1 x3 (v3 + (1:Int32))))
set_option maxHeartbeats 4000000 in
set_option maxRecDepth 100000 in
theorem w_X8_digest_6 {X : Ctx} {N : Nat} {o : Int64 × Sg} (C : Cx NM X cX8_digest 5 RX8 (ws_X8_digest) (some .long) rm_X8_digest) (Rr : Rx NM X 0 0 (some (.long o.1)) SH o.2) {K6 : Sg → Int64 → Int32 → Option (Int64 × Sg)} (hK6 : ∀ (s : Sg) (v1 : Int64) (v3 : Int32), K6 s v1 v3 = some o → XW NM X 5 0 0 SH s 6 [(0, .ref 36), (1, .long v1), (3, .int v3)] []) (s : Sg) (v1 : Int64) (v3 : Int32) (hf : c_X8_digest_6 N K6 s v1 v3 = some o) : XW NM X 5 0 0 SH s 6 [(0, .ref 36), (1, .long v1), (3, .int v3)] [] := by
  unfold c_X8_digest_6 at hf
  refine X_iload_n C 2 dX8_digest_6 rfl rfl ?_
  refine X_bipush (v := (6:Int32)) C dX8_digest_7 (by decide) ?_
  refine X_icmp_ge (tgt := 31) C dX8_digest_9 (by decide) hf (fun hf => ?_) (fun hf => ?_)
  · refine X_loc (L' := [(0, .ref 36), (1, .long v1)]) [0, 1] rfl ?_
    exact w_X8_digest_31 C Rr _ _ hf
  · refine X_ldc2 (v := (31:Int64)) C (mc wd_136) dX8_digest_12 ?_
    refine X_lload_n C 1 dX8_digest_15 rfl rfl ?_
    refine X_lmul C dX8_digest_16 ?_
    refine X_aload_n C 0 dX8_digest_17 rfl rfl ?_
    refine X_iload_n C 2 dX8_digest_18 rfl rfl ?_
    refine X_callVi (As := [.int v3]) (rest := [.long (((31:Int64)) * v1)]) C aw_ok mcs lk_X8_226 sh_36 nc_8 (by decide) rfl rfl (Nat.le_of_ble_eq_true rfl) dX8_digest_19 hf (fun r s h => k_X8_count _ _ (r, s) h) (fun r2 s1 hf => ?_)
    refine X_i2l C dX8_digest_22 ?_
    refine X_ladd C dX8_digest_23 ?_
    refine X_nml hf (fun x3 hf => ?_)
    refine X_lstore_n (L' := [(0, .ref 36), (1, .long x3), (3, .int v3)]) C [1, 0, 2] dX8_digest_24 rfl (by decide) rfl ?_
    refine X_iinc (v := (1:Int32)) (L' := [(0, .ref 36), (1, .long x3), (3, .int (v3 + (1:Int32)))]) C 2 [1, 2, 0] dX8_digest_25 rfl (by decide) (by decide) rfl ?_
    refine X_goto (tgt := 6) C dX8_digest_28 (by decide) ?_
    exact hK6 _ _ _ hf
def b_X8_digest_6 (N : Nat) : Nat → Sg → Int64 → Int32 → Option (Int64 × Sg)
  | 0, _, _, _ => none
  | j + 1, s, v1, v3 => c_X8_digest_6 N (b_X8_digest_6 N j) s v1 v3
theorem h_X8_digest_6 {X : Ctx} {N : Nat} {o : Int64 × Sg} (C : Cx NM X cX8_digest 5 RX8 (ws_X8_digest) (some .long) rm_X8_digest) (Rr : Rx NM X 0 0 (some (.long o.1)) SH o.2) : ∀ (j : Nat) (s : Sg) (v1 : Int64) (v3 : Int32), b_X8_digest_6 N j s v1 v3 = some o → XW NM X 5 0 0 SH s 6 [(0, .ref 36), (1, .long v1), (3, .int v3)] [] := by
  intro j
  induction j with
  | zero => intro s v1 v3 hf; cases (show none = some o from hf)
  | succ j ih => intro s v1 v3 hf; exact w_X8_digest_6 C Rr ih s v1 v3 hf
def c_X8_digest_0 (N : Nat) (s : Sg) : Option (Int64 × Sg) :=
b_X8_digest_6 N N s ((199:Int64)) ((0:Int32))
set_option maxHeartbeats 4000000 in
set_option maxRecDepth 100000 in
theorem w_X8_digest_0 {X : Ctx} {N : Nat} {o : Int64 × Sg} (C : Cx NM X cX8_digest 5 RX8 (ws_X8_digest) (some .long) rm_X8_digest) (Rr : Rx NM X 0 0 (some (.long o.1)) SH o.2) (s : Sg) (hf : c_X8_digest_0 N s = some o) : XW NM X 5 0 0 SH s 0 [(0, .ref 36)] [] := by
  unfold c_X8_digest_0 at hf
  refine X_ldc2 (v := (199:Int64)) C (mc wd_135) dX8_digest_0 ?_
  refine X_lstore_n (L' := [(0, .ref 36), (1, .long ((199:Int64)))]) C [1, 0] dX8_digest_3 rfl (by decide) rfl ?_
  refine X_iconst (v := (0:Int32)) C dX8_digest_4 (by decide) ?_
  refine X_istore_n (L' := [(0, .ref 36), (1, .long ((199:Int64))), (3, .int ((0:Int32)))]) C [1, 2, 0] dX8_digest_5 rfl (by decide) rfl ?_
  exact h_X8_digest_6 C Rr _ _ _ _ hf
def f_X8_digest (N : Nat) (s : Sg) : Option (Int64 × Sg) := c_X8_digest_0 N s
theorem k_X8_digest {N : Nat} (s : Sg) (o : Int64 × Sg) (hf : f_X8_digest N s = some o) : Ctr NM yX8_digest (ws_X8_digest) rm_X8_digest SH s [.ref 36] (some (.long o.1)) o.2 :=
  Ctr.of (by decide) rfl (Nat.le_of_ble_eq_true rfl) (fun X C Rr => by show XW NM X 5 0 0 SH s 0 [(0, .ref 36)] []; exact w_X8_digest_0 C Rr s hf)

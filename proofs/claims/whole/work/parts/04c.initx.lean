abbrev ws_X7_init : List Cond := Cond.code yX7_init cX7_init 2 none :: AW
def SC_X7 : List Shp := [.inl (7, [some 2, some 3, some 4, some 7, some 8, some 9, some 11, some 14, some 16, some 18, some 26, some 28, some 30, none, none]), .inr (0, 6), .inr (0, 4), .inl (0, [some 5, none]), .inl (6, [some 6, none, none, none]), .inr (0, 2800), .inl (2, [none, none, none, none, none, none, none]), .inl (1, [none, none, none, none, none, none, none, none, none, none]), .inl (6, [some 10, none, none, none]), .inr (0, 360), .inl (5, [some 12, some 13]), .inr (0, 3), .inr (0, 3), .inl (6, [some 15, none, none, none]), .inr (0, 32), .inl (6, [some 17, none, none, none]), .inr (0, 9), .inl (4, [some 19, some 20, some 21, some 22, some 23, some 24, some 25, none, none]), .inr (0, 8), .inr (0, 8), .inr (0, 8), .inr (0, 8), .inr (0, 8), .inr (0, 9), .inr (0, 3), .inl (6, [some 27, none, none, none]), .inr (0, 24), .inl (6, [some 29, none, none, none]), .inr (0, 15), .inl (3, [some 31, some 32, some 33, some 34, some 35, some 36, none, none, none]), .inr (0, 6), .inr (0, 6), .inr (0, 7), .inr (0, 6), .inr (0, 6), .inr (0, 6)]
theorem sc_X7_0 : SC_X7[0]? = some (.inl (7, [some 2, some 3, some 4, some 7, some 8, some 9, some 11, some 14, some 16, some 18, some 26, some 28, some 30, none, none])) := rfl
theorem sc_X7_1 : SC_X7[1]? = some (.inr (0, 6)) := rfl
theorem sc_X7_2 : SC_X7[2]? = some (.inr (0, 4)) := rfl
theorem sc_X7_3 : SC_X7[3]? = some (.inl (0, [some 5, none])) := rfl
theorem sc_X7_4 : SC_X7[4]? = some (.inl (6, [some 6, none, none, none])) := rfl
theorem sc_X7_5 : SC_X7[5]? = some (.inr (0, 2800)) := rfl
theorem sc_X7_6 : SC_X7[6]? = some (.inl (2, [none, none, none, none, none, none, none])) := rfl
theorem sc_X7_7 : SC_X7[7]? = some (.inl (1, [none, none, none, none, none, none, none, none, none, none])) := rfl
theorem sc_X7_8 : SC_X7[8]? = some (.inl (6, [some 10, none, none, none])) := rfl
theorem sc_X7_9 : SC_X7[9]? = some (.inr (0, 360)) := rfl
theorem sc_X7_10 : SC_X7[10]? = some (.inl (5, [some 12, some 13])) := rfl
theorem sc_X7_11 : SC_X7[11]? = some (.inr (0, 3)) := rfl
theorem sc_X7_12 : SC_X7[12]? = some (.inr (0, 3)) := rfl
theorem sc_X7_13 : SC_X7[13]? = some (.inl (6, [some 15, none, none, none])) := rfl
theorem sc_X7_14 : SC_X7[14]? = some (.inr (0, 32)) := rfl
theorem sc_X7_15 : SC_X7[15]? = some (.inl (6, [some 17, none, none, none])) := rfl
theorem sc_X7_16 : SC_X7[16]? = some (.inr (0, 9)) := rfl
theorem sc_X7_17 : SC_X7[17]? = some (.inl (4, [some 19, some 20, some 21, some 22, some 23, some 24, some 25, none, none])) := rfl
theorem sc_X7_18 : SC_X7[18]? = some (.inr (0, 8)) := rfl
theorem sc_X7_19 : SC_X7[19]? = some (.inr (0, 8)) := rfl
theorem sc_X7_20 : SC_X7[20]? = some (.inr (0, 8)) := rfl
theorem sc_X7_21 : SC_X7[21]? = some (.inr (0, 8)) := rfl
theorem sc_X7_22 : SC_X7[22]? = some (.inr (0, 8)) := rfl
theorem sc_X7_23 : SC_X7[23]? = some (.inr (0, 9)) := rfl
theorem sc_X7_24 : SC_X7[24]? = some (.inr (0, 3)) := rfl
theorem sc_X7_25 : SC_X7[25]? = some (.inl (6, [some 27, none, none, none])) := rfl
theorem sc_X7_26 : SC_X7[26]? = some (.inr (0, 24)) := rfl
theorem sc_X7_27 : SC_X7[27]? = some (.inl (6, [some 29, none, none, none])) := rfl
theorem sc_X7_28 : SC_X7[28]? = some (.inr (0, 15)) := rfl
theorem sc_X7_29 : SC_X7[29]? = some (.inl (3, [some 31, some 32, some 33, some 34, some 35, some 36, none, none, none])) := rfl
theorem sc_X7_30 : SC_X7[30]? = some (.inr (0, 6)) := rfl
theorem sc_X7_31 : SC_X7[31]? = some (.inr (0, 6)) := rfl
theorem sc_X7_32 : SC_X7[32]? = some (.inr (0, 7)) := rfl
theorem sc_X7_33 : SC_X7[33]? = some (.inr (0, 6)) := rfl
theorem sc_X7_34 : SC_X7[34]? = some (.inr (0, 6)) := rfl
theorem sc_X7_35 : SC_X7[35]? = some (.inr (0, 6)) := rfl
abbrev rm_X7_init : Room := { frames := 3, cells := 35, slots := 3408, locals := 63 }
def g_X7_init_0 : Sg := mrg2 3 3 z0 g_X0_init_1
def g_X7_init_1 : Sg := mrg2 6 1 g_X7_init_0 g_X2_init_6
def g_X7_init_2 : Sg := mrg2 7 1 g_X7_init_1 g_X1_init_9
def g_X7_init_3 : Sg := mrg2 8 2 g_X7_init_2 (g_X6_init_2 (60:Int32) (6:Int32))
def g_X7_init_4 : Sg := mrg2 10 3 g_X7_init_3 o_X5_init
def g_X7_init_5 : Sg := mrg2 13 2 g_X7_init_4 (g_X6_init_2 (8:Int32) (4:Int32))
def g_X7_init_6 : Sg := mrg2 15 2 g_X7_init_5 (g_X6_init_2 (3:Int32) (3:Int32))
def g_X7_init_7 : Sg := mrg2 17 8 g_X7_init_6 g_X4_init_1
def g_X7_init_8 : Sg := mrg2 25 2 g_X7_init_7 (g_X6_init_2 (12:Int32) (2:Int32))
def g_X7_init_9 : Sg := mrg2 27 2 g_X7_init_8 (g_X6_init_2 (5:Int32) (3:Int32))
def g_X7_init_10 : Sg := mrg2 29 7 g_X7_init_9 g_X3_init_2
def g_X7_init_11 : Sg := sgu g_X7_init_10 0 13 (0:Int32)
def g_X7_init_12 : Sg := sgu g_X7_init_11 0 14 (0:Int32)
def c_X7_init_211 (N : Nat) (K211 : Sg → Int32 → Option (Sg)) (s : Sg) (v1 : Int32) : Option (Sg) :=
if ((5:Int32)) ≤ v1 then
 some s
 else
 bdv (f_X6_set 27 15 s v1 ((0:Int32)) (((100:Int32)) * v1)) (fun s1 => bdv (f_X6_set 27 15 s1 v1 ((1:Int32)) (((50:Int32)) * v1)) (fun s3 => bdv (f_X6_set 27 15 s3 v1 ((2:Int32)) (((80:Int32)) * v1)) (fun s5 => K211 s5 (v1 + (1:Int32)))))
set_option maxHeartbeats 4000000 in
set_option maxRecDepth 100000 in
theorem w_X7_init_211 {X : Ctx} {N : Nat} {o : Sg} (C : Cx NM X cX7_init 2 RX7 (ws_X7_init) none rm_X7_init) (Rr : Rx NM X 35 3408 none SC_X7 o) {K211 : Sg → Int32 → Option (Sg)} (hK211 : ∀ (s : Sg) (v1 : Int32), K211 s v1 = some o → XW NM X 2 35 3408 SC_X7 s 211 [(0, .ref 0), (1, .int v1)] []) (s : Sg) (v1 : Int32) (hf : c_X7_init_211 N K211 s v1 = some o) : XW NM X 2 35 3408 SC_X7 s 211 [(0, .ref 0), (1, .int v1)] [] := by
  unfold c_X7_init_211 at hf
  refine X_iload_n C 1 dX7_init_211 rfl rfl ?_
  refine X_iconst (v := (5:Int32)) C dX7_init_212 (by decide) ?_
  refine X_icmp_ge (tgt := 261) C dX7_init_213 (by decide) hf (fun hf => ?_) (fun hf => ?_)
  · exact X_vret C dX7_init_261 hf Rr
  · refine X_aload_n C 0 dX7_init_216 rfl rfl ?_
    refine X_getr C 11 sc_X7_0 nc_7 inM_7 (by decide) (mc wd_73) rfl dX7_init_217 ?_
    refine X_iload_n C 1 dX7_init_220 rfl rfl ?_
    refine X_iconst (v := (0:Int32)) C dX7_init_221 (by decide) ?_
    refine X_bipush (v := (100:Int32)) C dX7_init_222 (by decide) ?_
    refine X_iload_n C 1 dX7_init_224 rfl rfl ?_
    refine X_imul C dX7_init_225 ?_
    refine X_callVv (As := [.int v1, .int ((0:Int32)), .int (((100:Int32)) * v1)]) (rest := []) C aw_ok mcs lk_X7_86 sc_X7_27 nc_6 (by decide) rfl rfl (Nat.le_of_ble_eq_true rfl) dX7_init_226 hf (fun s h => k_X6_set sc_X7_27 sc_X7_28 _ _ _ _ s h) (fun s1 hf => ?_)
    refine X_aload_n C 0 dX7_init_229 rfl rfl ?_
    refine X_getr C 11 sc_X7_0 nc_7 inM_7 (by decide) (mc wd_73) rfl dX7_init_230 ?_
    refine X_iload_n C 1 dX7_init_233 rfl rfl ?_
    refine X_iconst (v := (1:Int32)) C dX7_init_234 (by decide) ?_
    refine X_bipush (v := (50:Int32)) C dX7_init_235 (by decide) ?_
    refine X_iload_n C 1 dX7_init_237 rfl rfl ?_
    refine X_imul C dX7_init_238 ?_
    refine X_callVv (As := [.int v1, .int ((1:Int32)), .int (((50:Int32)) * v1)]) (rest := []) C aw_ok mcs lk_X7_86 sc_X7_27 nc_6 (by decide) rfl rfl (Nat.le_of_ble_eq_true rfl) dX7_init_239 hf (fun s h => k_X6_set sc_X7_27 sc_X7_28 _ _ _ _ s h) (fun s3 hf => ?_)
    refine X_aload_n C 0 dX7_init_242 rfl rfl ?_
    refine X_getr C 11 sc_X7_0 nc_7 inM_7 (by decide) (mc wd_73) rfl dX7_init_243 ?_
    refine X_iload_n C 1 dX7_init_246 rfl rfl ?_
    refine X_iconst (v := (2:Int32)) C dX7_init_247 (by decide) ?_
    refine X_bipush (v := (80:Int32)) C dX7_init_248 (by decide) ?_
    refine X_iload_n C 1 dX7_init_250 rfl rfl ?_
    refine X_imul C dX7_init_251 ?_
    refine X_callVv (As := [.int v1, .int ((2:Int32)), .int (((80:Int32)) * v1)]) (rest := []) C aw_ok mcs lk_X7_86 sc_X7_27 nc_6 (by decide) rfl rfl (Nat.le_of_ble_eq_true rfl) dX7_init_252 hf (fun s h => k_X6_set sc_X7_27 sc_X7_28 _ _ _ _ s h) (fun s5 hf => ?_)
    refine X_iinc (v := (1:Int32)) (L' := [(0, .ref 0), (1, .int (v1 + (1:Int32)))]) C 1 [1, 0] dX7_init_255 rfl (by decide) (by decide) rfl ?_
    refine X_goto (tgt := 211) C dX7_init_258 (by decide) ?_
    exact hK211 _ _ hf
def b_X7_init_211 (N : Nat) : Nat → Sg → Int32 → Option (Sg)
  | 0, _, _ => none
  | j + 1, s, v1 => c_X7_init_211 N (b_X7_init_211 N j) s v1
theorem h_X7_init_211 {X : Ctx} {N : Nat} {o : Sg} (C : Cx NM X cX7_init 2 RX7 (ws_X7_init) none rm_X7_init) (Rr : Rx NM X 35 3408 none SC_X7 o) : ∀ (j : Nat) (s : Sg) (v1 : Int32), b_X7_init_211 N j s v1 = some o → XW NM X 2 35 3408 SC_X7 s 211 [(0, .ref 0), (1, .int v1)] [] := by
  intro j
  induction j with
  | zero => intro s v1 hf; cases (show none = some o from hf)
  | succ j ih => intro s v1 hf; exact w_X7_init_211 C Rr ih s v1 hf
def c_X7_init_209 (N : Nat) (s : Sg) : Option (Sg) :=
b_X7_init_211 N N s ((0:Int32))
set_option maxHeartbeats 4000000 in
set_option maxRecDepth 100000 in
theorem w_X7_init_209 {X : Ctx} {N : Nat} {o : Sg} (C : Cx NM X cX7_init 2 RX7 (ws_X7_init) none rm_X7_init) (Rr : Rx NM X 35 3408 none SC_X7 o) (s : Sg) (hf : c_X7_init_209 N s = some o) : XW NM X 2 35 3408 SC_X7 s 209 [(0, .ref 0)] [] := by
  unfold c_X7_init_209 at hf
  refine X_iconst (v := (0:Int32)) C dX7_init_209 (by decide) ?_
  refine X_istore_n (L' := [(0, .ref 0), (1, .int ((0:Int32)))]) C [1, 0] dX7_init_210 rfl (by decide) rfl ?_
  exact h_X7_init_211 C Rr _ _ _ hf
def c_X7_init_187 (N : Nat) (K187 : Sg → Int32 → Option (Sg)) (s : Sg) (v1 : Int32) : Option (Sg) :=
if ((12:Int32)) ≤ v1 then
 c_X7_init_209 N s
 else
 bdv (f_X6_set 25 24 s v1 ((0:Int32)) ((4:Int32))) (fun s1 => K187 s1 (v1 + (1:Int32)))
set_option maxHeartbeats 4000000 in
set_option maxRecDepth 100000 in
theorem w_X7_init_187 {X : Ctx} {N : Nat} {o : Sg} (C : Cx NM X cX7_init 2 RX7 (ws_X7_init) none rm_X7_init) (Rr : Rx NM X 35 3408 none SC_X7 o) {K187 : Sg → Int32 → Option (Sg)} (hK187 : ∀ (s : Sg) (v1 : Int32), K187 s v1 = some o → XW NM X 2 35 3408 SC_X7 s 187 [(0, .ref 0), (1, .int v1)] []) (s : Sg) (v1 : Int32) (hf : c_X7_init_187 N K187 s v1 = some o) : XW NM X 2 35 3408 SC_X7 s 187 [(0, .ref 0), (1, .int v1)] [] := by
  unfold c_X7_init_187 at hf
  refine X_iload_n C 1 dX7_init_187 rfl rfl ?_
  refine X_bipush (v := (12:Int32)) C dX7_init_188 (by decide) ?_
  refine X_icmp_ge (tgt := 209) C dX7_init_190 (by decide) hf (fun hf => ?_) (fun hf => ?_)
  · refine X_loc (L' := [(0, .ref 0)]) [0] rfl ?_
    exact w_X7_init_209 C Rr _ hf
  · refine X_aload_n C 0 dX7_init_193 rfl rfl ?_
    refine X_getr C 10 sc_X7_0 nc_7 inM_7 (by decide) (mc wd_72) rfl dX7_init_194 ?_
    refine X_iload_n C 1 dX7_init_197 rfl rfl ?_
    refine X_iconst (v := (0:Int32)) C dX7_init_198 (by decide) ?_
    refine X_iconst (v := (4:Int32)) C dX7_init_199 (by decide) ?_
    refine X_callVv (As := [.int v1, .int ((0:Int32)), .int ((4:Int32))]) (rest := []) C aw_ok mcs lk_X7_86 sc_X7_25 nc_6 (by decide) rfl rfl (Nat.le_of_ble_eq_true rfl) dX7_init_200 hf (fun s h => k_X6_set sc_X7_25 sc_X7_26 _ _ _ _ s h) (fun s1 hf => ?_)
    refine X_iinc (v := (1:Int32)) (L' := [(0, .ref 0), (1, .int (v1 + (1:Int32)))]) C 1 [1, 0] dX7_init_203 rfl (by decide) (by decide) rfl ?_
    refine X_goto (tgt := 187) C dX7_init_206 (by decide) ?_
    exact hK187 _ _ hf
def b_X7_init_187 (N : Nat) : Nat → Sg → Int32 → Option (Sg)
  | 0, _, _ => none
  | j + 1, s, v1 => c_X7_init_187 N (b_X7_init_187 N j) s v1
theorem h_X7_init_187 {X : Ctx} {N : Nat} {o : Sg} (C : Cx NM X cX7_init 2 RX7 (ws_X7_init) none rm_X7_init) (Rr : Rx NM X 35 3408 none SC_X7 o) : ∀ (j : Nat) (s : Sg) (v1 : Int32), b_X7_init_187 N j s v1 = some o → XW NM X 2 35 3408 SC_X7 s 187 [(0, .ref 0), (1, .int v1)] [] := by
  intro j
  induction j with
  | zero => intro s v1 hf; cases (show none = some o from hf)
  | succ j ih => intro s v1 hf; exact w_X7_init_187 C Rr ih s v1 hf
def c_X7_init_185 (N : Nat) (s : Sg) : Option (Sg) :=
b_X7_init_187 N N s ((0:Int32))
set_option maxHeartbeats 4000000 in
set_option maxRecDepth 100000 in
theorem w_X7_init_185 {X : Ctx} {N : Nat} {o : Sg} (C : Cx NM X cX7_init 2 RX7 (ws_X7_init) none rm_X7_init) (Rr : Rx NM X 35 3408 none SC_X7 o) (s : Sg) (hf : c_X7_init_185 N s = some o) : XW NM X 2 35 3408 SC_X7 s 185 [(0, .ref 0)] [] := by
  unfold c_X7_init_185 at hf
  refine X_iconst (v := (0:Int32)) C dX7_init_185 (by decide) ?_
  refine X_istore_n (L' := [(0, .ref 0), (1, .int ((0:Int32)))]) C [1, 0] dX7_init_186 rfl (by decide) rfl ?_
  exact h_X7_init_187 C Rr _ _ _ hf
def c_X7_init_166 (N : Nat) (K166 : Sg → Int32 → Option (Sg)) (s : Sg) (v1 : Int32) : Option (Sg) :=
if ((4:Int32)) ≤ v1 then
 c_X7_init_185 N s
 else
 gd (vi v1 4) (lt_ (sgu s 2 v1.toNatClampNeg ((30:Int32))) (fun s1 => K166 s1 (v1 + (1:Int32))))
set_option maxHeartbeats 4000000 in
set_option maxRecDepth 100000 in
theorem w_X7_init_166 {X : Ctx} {N : Nat} {o : Sg} (C : Cx NM X cX7_init 2 RX7 (ws_X7_init) none rm_X7_init) (Rr : Rx NM X 35 3408 none SC_X7 o) {K166 : Sg → Int32 → Option (Sg)} (hK166 : ∀ (s : Sg) (v1 : Int32), K166 s v1 = some o → XW NM X 2 35 3408 SC_X7 s 166 [(0, .ref 0), (1, .int v1)] []) (s : Sg) (v1 : Int32) (hf : c_X7_init_166 N K166 s v1 = some o) : XW NM X 2 35 3408 SC_X7 s 166 [(0, .ref 0), (1, .int v1)] [] := by
  unfold c_X7_init_166 at hf
  refine X_iload_n C 1 dX7_init_166 rfl rfl ?_
  refine X_iconst (v := (4:Int32)) C dX7_init_167 (by decide) ?_
  refine X_icmp_ge (tgt := 185) C dX7_init_168 (by decide) hf (fun hf => ?_) (fun hf => ?_)
  · refine X_loc (L' := [(0, .ref 0)]) [0] rfl ?_
    exact w_X7_init_185 C Rr _ hf
  · refine X_aload_n C 0 dX7_init_171 rfl rfl ?_
    refine X_getr C 1 sc_X7_0 nc_7 inM_7 (by decide) (mc wd_58) rfl dX7_init_172 ?_
    refine X_iload_n C 1 dX7_init_175 rfl rfl ?_
    refine X_bipush (v := (30:Int32)) C dX7_init_176 (by decide) ?_
    refine X_iast C sc_X7_2 dX7_init_178 hf (fun s1 hf => ?_)
    refine X_iinc (v := (1:Int32)) (L' := [(0, .ref 0), (1, .int (v1 + (1:Int32)))]) C 1 [1, 0] dX7_init_179 rfl (by decide) (by decide) rfl ?_
    refine X_goto (tgt := 166) C dX7_init_182 (by decide) ?_
    exact hK166 _ _ hf
def b_X7_init_166 (N : Nat) : Nat → Sg → Int32 → Option (Sg)
  | 0, _, _ => none
  | j + 1, s, v1 => c_X7_init_166 N (b_X7_init_166 N j) s v1
theorem h_X7_init_166 {X : Ctx} {N : Nat} {o : Sg} (C : Cx NM X cX7_init 2 RX7 (ws_X7_init) none rm_X7_init) (Rr : Rx NM X 35 3408 none SC_X7 o) : ∀ (j : Nat) (s : Sg) (v1 : Int32), b_X7_init_166 N j s v1 = some o → XW NM X 2 35 3408 SC_X7 s 166 [(0, .ref 0), (1, .int v1)] [] := by
  intro j
  induction j with
  | zero => intro s v1 hf; cases (show none = some o from hf)
  | succ j ih => intro s v1 hf; exact w_X7_init_166 C Rr ih s v1 hf
def f_X7_init (N : Nat) : Option Sg := b_X7_init_166 N N g_X7_init_12 ((0:Int32))
set_option maxRecDepth 100000 in
set_option maxHeartbeats 4000000 in
theorem k_X7_init {N : Nat} (o : Sg) (hf : f_X7_init N = some o) : CtrA NM yX7_init (ws_X7_init) rm_X7_init 35 3408 [.inl (7, [some 0, some 0, some 0, some 0, some 0, some 0, some 0, some 0, some 0, some 0, some 0, some 0, some 0, none, none])] z0 [.ref 0] SC_X7 o :=
  CtrA.of (by decide) rfl rfl (Nat.le_of_ble_eq_true rfl) (fun X C I hX Rr => by
    show XW NM X 2 0 0 [.inl (7, [some 0, some 0, some 0, some 0, some 0, some 0, some 0, some 0, some 0, some 0, some 0, some 0, some 0, none, none])] z0 0 [(0, .ref 0)] []
    refine X_aload_n C 0 dX7_init_0 rfl rfl ?_
    refine X_obj C (mc wd_548) (mc wd_537) (mc wd_538) ⟨Nat.le_of_ble_eq_true rfl, Nat.le_of_ble_eq_true rfl⟩ dX7_init_1 ?_
    refine X_aload_n C 0 dX7_init_4 rfl rfl ?_
    refine X_bipush (v := (6:Int32)) C dX7_init_5 (by decide) ?_
    refine X_newa (ty := .int) (N := 6) (n0 := 1) C hX 0 1 rfl (by decide) (by decide) rfl rfl (fun _ => rfl) hra_I rfl (mc wd_567) (by decide) (by decide) (by decide) (fun _ => rfl) rfl rfl (by decide) dX7_init_7 ?_
    refine X_S (S' := [.inl (7, [some 0, some 0, some 0, some 0, some 0, some 0, some 0, some 0, some 0, some 0, some 0, some 0, some 0, none, none]), .inr (0, 6)]) rfl ?_
    refine X_putr (r := 1) (ty := .array .int) C 0 rfl nc_7 inM_7 (by decide) tyX7 tyX7_ok nmX7 (mc wd_57) rfl I rfl (by decide +kernel) (fun _ => ⟨rfl, rfl⟩) rfl dX7_init_9 ?_
    refine X_S (S' := [.inl (7, [some 2, some 0, some 0, some 0, some 0, some 0, some 0, some 0, some 0, some 0, some 0, some 0, some 0, none, none]), .inr (0, 6)]) rfl ?_
    refine X_aload_n C 0 dX7_init_12 rfl rfl ?_
    refine X_iconst (v := (4:Int32)) C dX7_init_13 (by decide) ?_
    refine X_newa (ty := .int) (N := 4) (n0 := 1) C hX 0 2 rfl (by decide) (by decide) rfl rfl (fun _ => rfl) hra_I rfl (mc wd_567) (by decide) (by decide) (by decide) (fun _ => rfl) rfl rfl (by decide) dX7_init_14 ?_
    refine X_S (S' := [.inl (7, [some 2, some 0, some 0, some 0, some 0, some 0, some 0, some 0, some 0, some 0, some 0, some 0, some 0, none, none]), .inr (0, 6), .inr (0, 4)]) rfl ?_
    refine X_putr (r := 2) (ty := .array .int) C 1 rfl nc_7 inM_7 (by decide) tyX7 tyX7_ok nmX7 (mc wd_58) rfl I rfl (by decide +kernel) (fun _ => ⟨rfl, rfl⟩) rfl dX7_init_16 ?_
    refine X_S (S' := [.inl (7, [some 2, some 3, some 0, some 0, some 0, some 0, some 0, some 0, some 0, some 0, some 0, some 0, some 0, none, none]), .inr (0, 6), .inr (0, 4)]) rfl ?_
    refine X_aload_n C 0 dX7_init_19 rfl rfl ?_
    refine X_new (fl := [some 0, none]) (n0 := 1) C hX 3 rfl (by decide) (by decide) rfl tyX0 tyX0_ok nc_0 inM_0 (mc wd_549) (mc wd_550) (mc wd_154) rfl (by decide) (fun _ => rfl) rfl rfl (by decide) dX7_init_20 ?_
    refine X_S (S' := [.inl (7, [some 2, some 3, some 0, some 0, some 0, some 0, some 0, some 0, some 0, some 0, some 0, some 0, some 0, none, none]), .inr (0, 6), .inr (0, 4), .inl (0, [some 0, none])]) rfl ?_
    refine X_dup C dX7_init_23 rfl ?_
    refine X_callN (S0 := [.inl (7, [some 2, some 3, some 0, some 0, some 0, some 0, some 0, some 0, some 0, some 0, some 0, some 0, some 0, none, none]), .inr (0, 6), .inr (0, 4)]) (s0 := .inl (0, [some 0, none])) (As := []) (rest := [.ref 3, .ref 0]) (n0 := 1) C hX aw_ok mcs 3 lk_X7_18 rfl rfl (by decide) (by decide) (by decide) rfl rfl (by decide) (fun _ _ _ _ => rfl) (fun _ => rfl) rfl rfl (fun _ => rfl) (by decide) rfl rfl (Nat.le_of_ble_eq_true rfl) dX7_init_24 k_X0_init ?_
    refine X_S (S' := [.inl (7, [some 2, some 3, some 0, some 0, some 0, some 0, some 0, some 0, some 0, some 0, some 0, some 0, some 0, none, none]), .inr (0, 6), .inr (0, 4), .inl (0, [some 5, none]), .inl (6, [some 6, none, none, none]), .inr (0, 2800)]) rfl ?_
    refine X_g (σ' := g_X7_init_0) rfl ?_
    refine X_putr (r := 3) (ty := .object "IronCampaign$Column") C 2 rfl nc_7 inM_7 (by decide) tyX7 tyX7_ok nmX7 (mc wd_59) rfl I rfl (by decide +kernel) (fun _ => ⟨rfl, rfl⟩) rfl dX7_init_27 ?_
    refine X_S (S' := [.inl (7, [some 2, some 3, some 4, some 0, some 0, some 0, some 0, some 0, some 0, some 0, some 0, some 0, some 0, none, none]), .inr (0, 6), .inr (0, 4), .inl (0, [some 5, none]), .inl (6, [some 6, none, none, none]), .inr (0, 2800)]) rfl ?_
    refine X_aload_n C 0 dX7_init_30 rfl rfl ?_
    refine X_new (fl := [none, none, none, none, none, none, none]) (n0 := 1) C hX 6 rfl (by decide) (by decide) rfl tyX2 tyX2_ok nc_2 inM_2 (mc wd_551) (mc wd_552) (mc wd_168) rfl (by decide) (fun _ => rfl) rfl rfl (by decide) dX7_init_31 ?_
    refine X_S (S' := [.inl (7, [some 2, some 3, some 4, some 0, some 0, some 0, some 0, some 0, some 0, some 0, some 0, some 0, some 0, none, none]), .inr (0, 6), .inr (0, 4), .inl (0, [some 5, none]), .inl (6, [some 6, none, none, none]), .inr (0, 2800), .inl (2, [none, none, none, none, none, none, none])]) rfl ?_
    refine X_dup C dX7_init_34 rfl ?_
    refine X_callN (S0 := [.inl (7, [some 2, some 3, some 4, some 0, some 0, some 0, some 0, some 0, some 0, some 0, some 0, some 0, some 0, none, none]), .inr (0, 6), .inr (0, 4), .inl (0, [some 5, none]), .inl (6, [some 6, none, none, none]), .inr (0, 2800)]) (s0 := .inl (2, [none, none, none, none, none, none, none])) (As := []) (rest := [.ref 6, .ref 0]) (n0 := 1) C hX aw_ok mcs 6 lk_X7_25 rfl rfl (by decide) (by decide) (by decide) rfl rfl (by decide) (fun _ _ _ _ => rfl) (fun _ => rfl) rfl rfl (fun _ => rfl) (by decide) rfl rfl (Nat.le_of_ble_eq_true rfl) dX7_init_35 k_X2_init ?_
    refine X_S (S' := [.inl (7, [some 2, some 3, some 4, some 0, some 0, some 0, some 0, some 0, some 0, some 0, some 0, some 0, some 0, none, none]), .inr (0, 6), .inr (0, 4), .inl (0, [some 5, none]), .inl (6, [some 6, none, none, none]), .inr (0, 2800), .inl (2, [none, none, none, none, none, none, none])]) rfl ?_
    refine X_g (σ' := g_X7_init_1) rfl ?_
    refine X_putr (r := 6) (ty := .object "IronCampaign$Hearth") C 3 rfl nc_7 inM_7 (by decide) tyX7 tyX7_ok nmX7 (mc wd_62) rfl I rfl (by decide +kernel) (fun _ => ⟨rfl, rfl⟩) rfl dX7_init_38 ?_
    refine X_S (S' := [.inl (7, [some 2, some 3, some 4, some 7, some 0, some 0, some 0, some 0, some 0, some 0, some 0, some 0, some 0, none, none]), .inr (0, 6), .inr (0, 4), .inl (0, [some 5, none]), .inl (6, [some 6, none, none, none]), .inr (0, 2800), .inl (2, [none, none, none, none, none, none, none])]) rfl ?_
    refine X_aload_n C 0 dX7_init_41 rfl rfl ?_
    refine X_new (fl := [none, none, none, none, none, none, none, none, none, none]) (n0 := 1) C hX 7 rfl (by decide) (by decide) rfl tyX1 tyX1_ok nc_1 inM_1 (mc wd_553) (mc wd_554) (mc wd_163) rfl (by decide) (fun _ => rfl) rfl rfl (by decide) dX7_init_42 ?_
    refine X_S (S' := [.inl (7, [some 2, some 3, some 4, some 7, some 0, some 0, some 0, some 0, some 0, some 0, some 0, some 0, some 0, none, none]), .inr (0, 6), .inr (0, 4), .inl (0, [some 5, none]), .inl (6, [some 6, none, none, none]), .inr (0, 2800), .inl (2, [none, none, none, none, none, none, none]), .inl (1, [none, none, none, none, none, none, none, none, none, none])]) rfl ?_
    refine X_dup C dX7_init_45 rfl ?_
    refine X_callN (S0 := [.inl (7, [some 2, some 3, some 4, some 7, some 0, some 0, some 0, some 0, some 0, some 0, some 0, some 0, some 0, none, none]), .inr (0, 6), .inr (0, 4), .inl (0, [some 5, none]), .inl (6, [some 6, none, none, none]), .inr (0, 2800), .inl (2, [none, none, none, none, none, none, none])]) (s0 := .inl (1, [none, none, none, none, none, none, none, none, none, none])) (As := []) (rest := [.ref 7, .ref 0]) (n0 := 1) C hX aw_ok mcs 7 lk_X7_32 rfl rfl (by decide) (by decide) (by decide) rfl rfl (by decide) (fun _ _ _ _ => rfl) (fun _ => rfl) rfl rfl (fun _ => rfl) (by decide) rfl rfl (Nat.le_of_ble_eq_true rfl) dX7_init_46 k_X1_init ?_
    refine X_S (S' := [.inl (7, [some 2, some 3, some 4, some 7, some 0, some 0, some 0, some 0, some 0, some 0, some 0, some 0, some 0, none, none]), .inr (0, 6), .inr (0, 4), .inl (0, [some 5, none]), .inl (6, [some 6, none, none, none]), .inr (0, 2800), .inl (2, [none, none, none, none, none, none, none]), .inl (1, [none, none, none, none, none, none, none, none, none, none])]) rfl ?_
    refine X_g (σ' := g_X7_init_2) rfl ?_
    refine X_putr (r := 7) (ty := .object "IronCampaign$Furnace") C 4 rfl nc_7 inM_7 (by decide) tyX7 tyX7_ok nmX7 (mc wd_60) rfl I rfl (by decide +kernel) (fun _ => ⟨rfl, rfl⟩) rfl dX7_init_49 ?_
    refine X_S (S' := [.inl (7, [some 2, some 3, some 4, some 7, some 8, some 0, some 0, some 0, some 0, some 0, some 0, some 0, some 0, none, none]), .inr (0, 6), .inr (0, 4), .inl (0, [some 5, none]), .inl (6, [some 6, none, none, none]), .inr (0, 2800), .inl (2, [none, none, none, none, none, none, none]), .inl (1, [none, none, none, none, none, none, none, none, none, none])]) rfl ?_
    refine X_aload_n C 0 dX7_init_52 rfl rfl ?_
    refine X_new (fl := [some 0, none, none, none]) (n0 := 1) C hX 8 rfl (by decide) (by decide) rfl tyX6 tyX6_ok nc_6 inM_6 (mc wd_555) (mc wd_540) (mc wd_138) rfl (by decide) (fun _ => rfl) rfl rfl (by decide) dX7_init_53 ?_
    refine X_S (S' := [.inl (7, [some 2, some 3, some 4, some 7, some 8, some 0, some 0, some 0, some 0, some 0, some 0, some 0, some 0, none, none]), .inr (0, 6), .inr (0, 4), .inl (0, [some 5, none]), .inl (6, [some 6, none, none, none]), .inr (0, 2800), .inl (2, [none, none, none, none, none, none, none]), .inl (1, [none, none, none, none, none, none, none, none, none, none]), .inl (6, [some 0, none, none, none])]) rfl ?_
    refine X_dup C dX7_init_56 rfl ?_
    refine X_bipush (v := (60:Int32)) C dX7_init_57 (by decide) ?_
    refine X_bipush (v := (6:Int32)) C dX7_init_59 (by decide) ?_
    refine X_callI (S0 := [.inl (7, [some 2, some 3, some 4, some 7, some 8, some 0, some 0, some 0, some 0, some 0, some 0, some 0, some 0, none, none]), .inr (0, 6), .inr (0, 4), .inl (0, [some 5, none]), .inl (6, [some 6, none, none, none]), .inr (0, 2800), .inl (2, [none, none, none, none, none, none, none]), .inl (1, [none, none, none, none, none, none, none, none, none, none])]) (s0 := .inl (6, [some 0, none, none, none])) (As := [.int ((60:Int32)), .int ((6:Int32))]) (rest := [.ref 8, .ref 0]) (n0 := 1) C hX aw_ok mcs 8 lk_X7_39 rfl rfl (by decide) (by decide) (by decide) rfl rfl (by decide) (fun _ _ _ _ => rfl) (fun _ => rfl) rfl rfl (fun _ => rfl) (by decide) rfl rfl (Nat.le_of_ble_eq_true rfl) dX7_init_61 (k_X6_init (60:Int32) (6:Int32) 360 (by decide) (by decide) (by decide) (by decide) (by decide)) ?_
    refine X_S (S' := [.inl (7, [some 2, some 3, some 4, some 7, some 8, some 0, some 0, some 0, some 0, some 0, some 0, some 0, some 0, none, none]), .inr (0, 6), .inr (0, 4), .inl (0, [some 5, none]), .inl (6, [some 6, none, none, none]), .inr (0, 2800), .inl (2, [none, none, none, none, none, none, none]), .inl (1, [none, none, none, none, none, none, none, none, none, none]), .inl (6, [some 10, none, none, none]), .inr (0, 360)]) rfl ?_
    refine X_g (σ' := g_X7_init_3) rfl ?_
    refine X_putr (r := 8) (ty := .object "IronCampaign$Table") C 5 rfl nc_7 inM_7 (by decide) tyX7 tyX7_ok nmX7 (mc wd_65) rfl I rfl (by decide +kernel) (fun _ => ⟨rfl, rfl⟩) rfl dX7_init_64 ?_
    refine X_S (S' := [.inl (7, [some 2, some 3, some 4, some 7, some 8, some 9, some 0, some 0, some 0, some 0, some 0, some 0, some 0, none, none]), .inr (0, 6), .inr (0, 4), .inl (0, [some 5, none]), .inl (6, [some 6, none, none, none]), .inr (0, 2800), .inl (2, [none, none, none, none, none, none, none]), .inl (1, [none, none, none, none, none, none, none, none, none, none]), .inl (6, [some 10, none, none, none]), .inr (0, 360)]) rfl ?_
    refine X_aload_n C 0 dX7_init_67 rfl rfl ?_
    refine X_new (fl := [some 0, some 0]) (n0 := 1) C hX 10 rfl (by decide) (by decide) rfl tyX5 tyX5_ok nc_5 inM_5 (mc wd_556) (mc wd_557) (mc wd_220) rfl (by decide) (fun _ => rfl) rfl rfl (by decide) dX7_init_68 ?_
    refine X_S (S' := [.inl (7, [some 2, some 3, some 4, some 7, some 8, some 9, some 0, some 0, some 0, some 0, some 0, some 0, some 0, none, none]), .inr (0, 6), .inr (0, 4), .inl (0, [some 5, none]), .inl (6, [some 6, none, none, none]), .inr (0, 2800), .inl (2, [none, none, none, none, none, none, none]), .inl (1, [none, none, none, none, none, none, none, none, none, none]), .inl (6, [some 10, none, none, none]), .inr (0, 360), .inl (5, [some 0, some 0])]) rfl ?_
    refine X_dup C dX7_init_71 rfl ?_
    refine X_callI (S0 := [.inl (7, [some 2, some 3, some 4, some 7, some 8, some 9, some 0, some 0, some 0, some 0, some 0, some 0, some 0, none, none]), .inr (0, 6), .inr (0, 4), .inl (0, [some 5, none]), .inl (6, [some 6, none, none, none]), .inr (0, 2800), .inl (2, [none, none, none, none, none, none, none]), .inl (1, [none, none, none, none, none, none, none, none, none, none]), .inl (6, [some 10, none, none, none]), .inr (0, 360)]) (s0 := .inl (5, [some 0, some 0])) (As := []) (rest := [.ref 10, .ref 0]) (n0 := 1) C hX aw_ok mcs 10 lk_X7_48 rfl rfl (by decide) (by decide) (by decide) rfl rfl (by decide) (fun _ _ _ _ => rfl) (fun _ => rfl) rfl rfl (fun _ => rfl) (by decide) rfl rfl (Nat.le_of_ble_eq_true rfl) dX7_init_72 (k_X5_init o_X5_init e_X5_init) ?_
    refine X_S (S' := [.inl (7, [some 2, some 3, some 4, some 7, some 8, some 9, some 0, some 0, some 0, some 0, some 0, some 0, some 0, none, none]), .inr (0, 6), .inr (0, 4), .inl (0, [some 5, none]), .inl (6, [some 6, none, none, none]), .inr (0, 2800), .inl (2, [none, none, none, none, none, none, none]), .inl (1, [none, none, none, none, none, none, none, none, none, none]), .inl (6, [some 10, none, none, none]), .inr (0, 360), .inl (5, [some 12, some 13]), .inr (0, 3), .inr (0, 3)]) rfl ?_
    refine X_g (σ' := g_X7_init_4) rfl ?_
    refine X_putr (r := 10) (ty := .object "IronCampaign$Signs") C 6 rfl nc_7 inM_7 (by decide) tyX7 tyX7_ok nmX7 (mc wd_64) rfl I rfl (by decide +kernel) (fun _ => ⟨rfl, rfl⟩) rfl dX7_init_75 ?_
    refine X_S (S' := [.inl (7, [some 2, some 3, some 4, some 7, some 8, some 9, some 11, some 0, some 0, some 0, some 0, some 0, some 0, none, none]), .inr (0, 6), .inr (0, 4), .inl (0, [some 5, none]), .inl (6, [some 6, none, none, none]), .inr (0, 2800), .inl (2, [none, none, none, none, none, none, none]), .inl (1, [none, none, none, none, none, none, none, none, none, none]), .inl (6, [some 10, none, none, none]), .inr (0, 360), .inl (5, [some 12, some 13]), .inr (0, 3), .inr (0, 3)]) rfl ?_
    refine X_aload_n C 0 dX7_init_78 rfl rfl ?_
    refine X_new (fl := [some 0, none, none, none]) (n0 := 1) C hX 13 rfl (by decide) (by decide) rfl tyX6 tyX6_ok nc_6 inM_6 (mc wd_555) (mc wd_540) (mc wd_138) rfl (by decide) (fun _ => rfl) rfl rfl (by decide) dX7_init_79 ?_
    refine X_S (S' := [.inl (7, [some 2, some 3, some 4, some 7, some 8, some 9, some 11, some 0, some 0, some 0, some 0, some 0, some 0, none, none]), .inr (0, 6), .inr (0, 4), .inl (0, [some 5, none]), .inl (6, [some 6, none, none, none]), .inr (0, 2800), .inl (2, [none, none, none, none, none, none, none]), .inl (1, [none, none, none, none, none, none, none, none, none, none]), .inl (6, [some 10, none, none, none]), .inr (0, 360), .inl (5, [some 12, some 13]), .inr (0, 3), .inr (0, 3), .inl (6, [some 0, none, none, none])]) rfl ?_
    refine X_dup C dX7_init_82 rfl ?_
    refine X_bipush (v := (8:Int32)) C dX7_init_83 (by decide) ?_
    refine X_iconst (v := (4:Int32)) C dX7_init_85 (by decide) ?_
    refine X_callI (S0 := [.inl (7, [some 2, some 3, some 4, some 7, some 8, some 9, some 11, some 0, some 0, some 0, some 0, some 0, some 0, none, none]), .inr (0, 6), .inr (0, 4), .inl (0, [some 5, none]), .inl (6, [some 6, none, none, none]), .inr (0, 2800), .inl (2, [none, none, none, none, none, none, none]), .inl (1, [none, none, none, none, none, none, none, none, none, none]), .inl (6, [some 10, none, none, none]), .inr (0, 360), .inl (5, [some 12, some 13]), .inr (0, 3), .inr (0, 3)]) (s0 := .inl (6, [some 0, none, none, none])) (As := [.int ((8:Int32)), .int ((4:Int32))]) (rest := [.ref 13, .ref 0]) (n0 := 1) C hX aw_ok mcs 13 lk_X7_39 rfl rfl (by decide) (by decide) (by decide) rfl rfl (by decide) (fun _ _ _ _ => rfl) (fun _ => rfl) rfl rfl (fun _ => rfl) (by decide) rfl rfl (Nat.le_of_ble_eq_true rfl) dX7_init_86 (k_X6_init (8:Int32) (4:Int32) 32 (by decide) (by decide) (by decide) (by decide) (by decide)) ?_
    refine X_S (S' := [.inl (7, [some 2, some 3, some 4, some 7, some 8, some 9, some 11, some 0, some 0, some 0, some 0, some 0, some 0, none, none]), .inr (0, 6), .inr (0, 4), .inl (0, [some 5, none]), .inl (6, [some 6, none, none, none]), .inr (0, 2800), .inl (2, [none, none, none, none, none, none, none]), .inl (1, [none, none, none, none, none, none, none, none, none, none]), .inl (6, [some 10, none, none, none]), .inr (0, 360), .inl (5, [some 12, some 13]), .inr (0, 3), .inr (0, 3), .inl (6, [some 15, none, none, none]), .inr (0, 32)]) rfl ?_
    refine X_g (σ' := g_X7_init_5) rfl ?_
    refine X_putr (r := 13) (ty := .object "IronCampaign$Table") C 7 rfl nc_7 inM_7 (by decide) tyX7 tyX7_ok nmX7 (mc wd_63) rfl I rfl (by decide +kernel) (fun _ => ⟨rfl, rfl⟩) rfl dX7_init_89 ?_
    refine X_S (S' := [.inl (7, [some 2, some 3, some 4, some 7, some 8, some 9, some 11, some 14, some 0, some 0, some 0, some 0, some 0, none, none]), .inr (0, 6), .inr (0, 4), .inl (0, [some 5, none]), .inl (6, [some 6, none, none, none]), .inr (0, 2800), .inl (2, [none, none, none, none, none, none, none]), .inl (1, [none, none, none, none, none, none, none, none, none, none]), .inl (6, [some 10, none, none, none]), .inr (0, 360), .inl (5, [some 12, some 13]), .inr (0, 3), .inr (0, 3), .inl (6, [some 15, none, none, none]), .inr (0, 32)]) rfl ?_
    refine X_aload_n C 0 dX7_init_92 rfl rfl ?_
    refine X_new (fl := [some 0, none, none, none]) (n0 := 1) C hX 15 rfl (by decide) (by decide) rfl tyX6 tyX6_ok nc_6 inM_6 (mc wd_555) (mc wd_540) (mc wd_138) rfl (by decide) (fun _ => rfl) rfl rfl (by decide) dX7_init_93 ?_
    refine X_S (S' := [.inl (7, [some 2, some 3, some 4, some 7, some 8, some 9, some 11, some 14, some 0, some 0, some 0, some 0, some 0, none, none]), .inr (0, 6), .inr (0, 4), .inl (0, [some 5, none]), .inl (6, [some 6, none, none, none]), .inr (0, 2800), .inl (2, [none, none, none, none, none, none, none]), .inl (1, [none, none, none, none, none, none, none, none, none, none]), .inl (6, [some 10, none, none, none]), .inr (0, 360), .inl (5, [some 12, some 13]), .inr (0, 3), .inr (0, 3), .inl (6, [some 15, none, none, none]), .inr (0, 32), .inl (6, [some 0, none, none, none])]) rfl ?_
    refine X_dup C dX7_init_96 rfl ?_
    refine X_iconst (v := (3:Int32)) C dX7_init_97 (by decide) ?_
    refine X_iconst (v := (3:Int32)) C dX7_init_98 (by decide) ?_
    refine X_callI (S0 := [.inl (7, [some 2, some 3, some 4, some 7, some 8, some 9, some 11, some 14, some 0, some 0, some 0, some 0, some 0, none, none]), .inr (0, 6), .inr (0, 4), .inl (0, [some 5, none]), .inl (6, [some 6, none, none, none]), .inr (0, 2800), .inl (2, [none, none, none, none, none, none, none]), .inl (1, [none, none, none, none, none, none, none, none, none, none]), .inl (6, [some 10, none, none, none]), .inr (0, 360), .inl (5, [some 12, some 13]), .inr (0, 3), .inr (0, 3), .inl (6, [some 15, none, none, none]), .inr (0, 32)]) (s0 := .inl (6, [some 0, none, none, none])) (As := [.int ((3:Int32)), .int ((3:Int32))]) (rest := [.ref 15, .ref 0]) (n0 := 1) C hX aw_ok mcs 15 lk_X7_39 rfl rfl (by decide) (by decide) (by decide) rfl rfl (by decide) (fun _ _ _ _ => rfl) (fun _ => rfl) rfl rfl (fun _ => rfl) (by decide) rfl rfl (Nat.le_of_ble_eq_true rfl) dX7_init_99 (k_X6_init (3:Int32) (3:Int32) 9 (by decide) (by decide) (by decide) (by decide) (by decide)) ?_
    refine X_S (S' := [.inl (7, [some 2, some 3, some 4, some 7, some 8, some 9, some 11, some 14, some 0, some 0, some 0, some 0, some 0, none, none]), .inr (0, 6), .inr (0, 4), .inl (0, [some 5, none]), .inl (6, [some 6, none, none, none]), .inr (0, 2800), .inl (2, [none, none, none, none, none, none, none]), .inl (1, [none, none, none, none, none, none, none, none, none, none]), .inl (6, [some 10, none, none, none]), .inr (0, 360), .inl (5, [some 12, some 13]), .inr (0, 3), .inr (0, 3), .inl (6, [some 15, none, none, none]), .inr (0, 32), .inl (6, [some 17, none, none, none]), .inr (0, 9)]) rfl ?_
    refine X_g (σ' := g_X7_init_6) rfl ?_
    refine X_putr (r := 15) (ty := .object "IronCampaign$Table") C 8 rfl nc_7 inM_7 (by decide) tyX7 tyX7_ok nmX7 (mc wd_68) rfl I rfl (by decide +kernel) (fun _ => ⟨rfl, rfl⟩) rfl dX7_init_102 ?_
    refine X_S (S' := [.inl (7, [some 2, some 3, some 4, some 7, some 8, some 9, some 11, some 14, some 16, some 0, some 0, some 0, some 0, none, none]), .inr (0, 6), .inr (0, 4), .inl (0, [some 5, none]), .inl (6, [some 6, none, none, none]), .inr (0, 2800), .inl (2, [none, none, none, none, none, none, none]), .inl (1, [none, none, none, none, none, none, none, none, none, none]), .inl (6, [some 10, none, none, none]), .inr (0, 360), .inl (5, [some 12, some 13]), .inr (0, 3), .inr (0, 3), .inl (6, [some 15, none, none, none]), .inr (0, 32), .inl (6, [some 17, none, none, none]), .inr (0, 9)]) rfl ?_
    refine X_aload_n C 0 dX7_init_105 rfl rfl ?_
    refine X_new (fl := [some 0, some 0, some 0, some 0, some 0, some 0, some 0, none, none]) (n0 := 1) C hX 17 rfl (by decide) (by decide) rfl tyX4 tyX4_ok nc_4 inM_4 (mc wd_558) (mc wd_559) (mc wd_188) rfl (by decide) (fun _ => rfl) rfl rfl (by decide) dX7_init_106 ?_
    refine X_S (S' := [.inl (7, [some 2, some 3, some 4, some 7, some 8, some 9, some 11, some 14, some 16, some 0, some 0, some 0, some 0, none, none]), .inr (0, 6), .inr (0, 4), .inl (0, [some 5, none]), .inl (6, [some 6, none, none, none]), .inr (0, 2800), .inl (2, [none, none, none, none, none, none, none]), .inl (1, [none, none, none, none, none, none, none, none, none, none]), .inl (6, [some 10, none, none, none]), .inr (0, 360), .inl (5, [some 12, some 13]), .inr (0, 3), .inr (0, 3), .inl (6, [some 15, none, none, none]), .inr (0, 32), .inl (6, [some 17, none, none, none]), .inr (0, 9), .inl (4, [some 0, some 0, some 0, some 0, some 0, some 0, some 0, none, none])]) rfl ?_
    refine X_dup C dX7_init_109 rfl ?_
    refine X_callN (S0 := [.inl (7, [some 2, some 3, some 4, some 7, some 8, some 9, some 11, some 14, some 16, some 0, some 0, some 0, some 0, none, none]), .inr (0, 6), .inr (0, 4), .inl (0, [some 5, none]), .inl (6, [some 6, none, none, none]), .inr (0, 2800), .inl (2, [none, none, none, none, none, none, none]), .inl (1, [none, none, none, none, none, none, none, none, none, none]), .inl (6, [some 10, none, none, none]), .inr (0, 360), .inl (5, [some 12, some 13]), .inr (0, 3), .inr (0, 3), .inl (6, [some 15, none, none, none]), .inr (0, 32), .inl (6, [some 17, none, none, none]), .inr (0, 9)]) (s0 := .inl (4, [some 0, some 0, some 0, some 0, some 0, some 0, some 0, none, none])) (As := []) (rest := [.ref 17, .ref 0]) (n0 := 1) C hX aw_ok mcs 17 lk_X7_61 rfl rfl (by decide) (by decide) (by decide) rfl rfl (by decide) (fun _ _ _ _ => rfl) (fun _ => rfl) rfl rfl (fun _ => rfl) (by decide) rfl rfl (Nat.le_of_ble_eq_true rfl) dX7_init_110 k_X4_init ?_
    refine X_S (S' := [.inl (7, [some 2, some 3, some 4, some 7, some 8, some 9, some 11, some 14, some 16, some 0, some 0, some 0, some 0, none, none]), .inr (0, 6), .inr (0, 4), .inl (0, [some 5, none]), .inl (6, [some 6, none, none, none]), .inr (0, 2800), .inl (2, [none, none, none, none, none, none, none]), .inl (1, [none, none, none, none, none, none, none, none, none, none]), .inl (6, [some 10, none, none, none]), .inr (0, 360), .inl (5, [some 12, some 13]), .inr (0, 3), .inr (0, 3), .inl (6, [some 15, none, none, none]), .inr (0, 32), .inl (6, [some 17, none, none, none]), .inr (0, 9), .inl (4, [some 19, some 20, some 21, some 22, some 23, some 24, some 25, none, none]), .inr (0, 8), .inr (0, 8), .inr (0, 8), .inr (0, 8), .inr (0, 8), .inr (0, 9), .inr (0, 3)]) rfl ?_
    refine X_g (σ' := g_X7_init_7) rfl ?_
    refine X_putr (r := 17) (ty := .object "IronCampaign$Sale") C 9 rfl nc_7 inM_7 (by decide) tyX7 tyX7_ok nmX7 (mc wd_69) rfl I rfl (by decide +kernel) (fun _ => ⟨rfl, rfl⟩) rfl dX7_init_113 ?_
    refine X_S (S' := [.inl (7, [some 2, some 3, some 4, some 7, some 8, some 9, some 11, some 14, some 16, some 18, some 0, some 0, some 0, none, none]), .inr (0, 6), .inr (0, 4), .inl (0, [some 5, none]), .inl (6, [some 6, none, none, none]), .inr (0, 2800), .inl (2, [none, none, none, none, none, none, none]), .inl (1, [none, none, none, none, none, none, none, none, none, none]), .inl (6, [some 10, none, none, none]), .inr (0, 360), .inl (5, [some 12, some 13]), .inr (0, 3), .inr (0, 3), .inl (6, [some 15, none, none, none]), .inr (0, 32), .inl (6, [some 17, none, none, none]), .inr (0, 9), .inl (4, [some 19, some 20, some 21, some 22, some 23, some 24, some 25, none, none]), .inr (0, 8), .inr (0, 8), .inr (0, 8), .inr (0, 8), .inr (0, 8), .inr (0, 9), .inr (0, 3)]) rfl ?_
    refine X_aload_n C 0 dX7_init_116 rfl rfl ?_
    refine X_new (fl := [some 0, none, none, none]) (n0 := 1) C hX 25 rfl (by decide) (by decide) rfl tyX6 tyX6_ok nc_6 inM_6 (mc wd_555) (mc wd_540) (mc wd_138) rfl (by decide) (fun _ => rfl) rfl rfl (by decide) dX7_init_117 ?_
    refine X_S (S' := [.inl (7, [some 2, some 3, some 4, some 7, some 8, some 9, some 11, some 14, some 16, some 18, some 0, some 0, some 0, none, none]), .inr (0, 6), .inr (0, 4), .inl (0, [some 5, none]), .inl (6, [some 6, none, none, none]), .inr (0, 2800), .inl (2, [none, none, none, none, none, none, none]), .inl (1, [none, none, none, none, none, none, none, none, none, none]), .inl (6, [some 10, none, none, none]), .inr (0, 360), .inl (5, [some 12, some 13]), .inr (0, 3), .inr (0, 3), .inl (6, [some 15, none, none, none]), .inr (0, 32), .inl (6, [some 17, none, none, none]), .inr (0, 9), .inl (4, [some 19, some 20, some 21, some 22, some 23, some 24, some 25, none, none]), .inr (0, 8), .inr (0, 8), .inr (0, 8), .inr (0, 8), .inr (0, 8), .inr (0, 9), .inr (0, 3), .inl (6, [some 0, none, none, none])]) rfl ?_
    refine X_dup C dX7_init_120 rfl ?_
    refine X_bipush (v := (12:Int32)) C dX7_init_121 (by decide) ?_
    refine X_iconst (v := (2:Int32)) C dX7_init_123 (by decide) ?_
    refine X_callI (S0 := [.inl (7, [some 2, some 3, some 4, some 7, some 8, some 9, some 11, some 14, some 16, some 18, some 0, some 0, some 0, none, none]), .inr (0, 6), .inr (0, 4), .inl (0, [some 5, none]), .inl (6, [some 6, none, none, none]), .inr (0, 2800), .inl (2, [none, none, none, none, none, none, none]), .inl (1, [none, none, none, none, none, none, none, none, none, none]), .inl (6, [some 10, none, none, none]), .inr (0, 360), .inl (5, [some 12, some 13]), .inr (0, 3), .inr (0, 3), .inl (6, [some 15, none, none, none]), .inr (0, 32), .inl (6, [some 17, none, none, none]), .inr (0, 9), .inl (4, [some 19, some 20, some 21, some 22, some 23, some 24, some 25, none, none]), .inr (0, 8), .inr (0, 8), .inr (0, 8), .inr (0, 8), .inr (0, 8), .inr (0, 9), .inr (0, 3)]) (s0 := .inl (6, [some 0, none, none, none])) (As := [.int ((12:Int32)), .int ((2:Int32))]) (rest := [.ref 25, .ref 0]) (n0 := 1) C hX aw_ok mcs 25 lk_X7_39 rfl rfl (by decide) (by decide) (by decide) rfl rfl (by decide) (fun _ _ _ _ => rfl) (fun _ => rfl) rfl rfl (fun _ => rfl) (by decide) rfl rfl (Nat.le_of_ble_eq_true rfl) dX7_init_124 (k_X6_init (12:Int32) (2:Int32) 24 (by decide) (by decide) (by decide) (by decide) (by decide)) ?_
    refine X_S (S' := [.inl (7, [some 2, some 3, some 4, some 7, some 8, some 9, some 11, some 14, some 16, some 18, some 0, some 0, some 0, none, none]), .inr (0, 6), .inr (0, 4), .inl (0, [some 5, none]), .inl (6, [some 6, none, none, none]), .inr (0, 2800), .inl (2, [none, none, none, none, none, none, none]), .inl (1, [none, none, none, none, none, none, none, none, none, none]), .inl (6, [some 10, none, none, none]), .inr (0, 360), .inl (5, [some 12, some 13]), .inr (0, 3), .inr (0, 3), .inl (6, [some 15, none, none, none]), .inr (0, 32), .inl (6, [some 17, none, none, none]), .inr (0, 9), .inl (4, [some 19, some 20, some 21, some 22, some 23, some 24, some 25, none, none]), .inr (0, 8), .inr (0, 8), .inr (0, 8), .inr (0, 8), .inr (0, 8), .inr (0, 9), .inr (0, 3), .inl (6, [some 27, none, none, none]), .inr (0, 24)]) rfl ?_
    refine X_g (σ' := g_X7_init_8) rfl ?_
    refine X_putr (r := 25) (ty := .object "IronCampaign$Table") C 10 rfl nc_7 inM_7 (by decide) tyX7 tyX7_ok nmX7 (mc wd_72) rfl I rfl (by decide +kernel) (fun _ => ⟨rfl, rfl⟩) rfl dX7_init_127 ?_
    refine X_S (S' := [.inl (7, [some 2, some 3, some 4, some 7, some 8, some 9, some 11, some 14, some 16, some 18, some 26, some 0, some 0, none, none]), .inr (0, 6), .inr (0, 4), .inl (0, [some 5, none]), .inl (6, [some 6, none, none, none]), .inr (0, 2800), .inl (2, [none, none, none, none, none, none, none]), .inl (1, [none, none, none, none, none, none, none, none, none, none]), .inl (6, [some 10, none, none, none]), .inr (0, 360), .inl (5, [some 12, some 13]), .inr (0, 3), .inr (0, 3), .inl (6, [some 15, none, none, none]), .inr (0, 32), .inl (6, [some 17, none, none, none]), .inr (0, 9), .inl (4, [some 19, some 20, some 21, some 22, some 23, some 24, some 25, none, none]), .inr (0, 8), .inr (0, 8), .inr (0, 8), .inr (0, 8), .inr (0, 8), .inr (0, 9), .inr (0, 3), .inl (6, [some 27, none, none, none]), .inr (0, 24)]) rfl ?_
    refine X_aload_n C 0 dX7_init_130 rfl rfl ?_
    refine X_new (fl := [some 0, none, none, none]) (n0 := 1) C hX 27 rfl (by decide) (by decide) rfl tyX6 tyX6_ok nc_6 inM_6 (mc wd_555) (mc wd_540) (mc wd_138) rfl (by decide) (fun _ => rfl) rfl rfl (by decide) dX7_init_131 ?_
    refine X_S (S' := [.inl (7, [some 2, some 3, some 4, some 7, some 8, some 9, some 11, some 14, some 16, some 18, some 26, some 0, some 0, none, none]), .inr (0, 6), .inr (0, 4), .inl (0, [some 5, none]), .inl (6, [some 6, none, none, none]), .inr (0, 2800), .inl (2, [none, none, none, none, none, none, none]), .inl (1, [none, none, none, none, none, none, none, none, none, none]), .inl (6, [some 10, none, none, none]), .inr (0, 360), .inl (5, [some 12, some 13]), .inr (0, 3), .inr (0, 3), .inl (6, [some 15, none, none, none]), .inr (0, 32), .inl (6, [some 17, none, none, none]), .inr (0, 9), .inl (4, [some 19, some 20, some 21, some 22, some 23, some 24, some 25, none, none]), .inr (0, 8), .inr (0, 8), .inr (0, 8), .inr (0, 8), .inr (0, 8), .inr (0, 9), .inr (0, 3), .inl (6, [some 27, none, none, none]), .inr (0, 24), .inl (6, [some 0, none, none, none])]) rfl ?_
    refine X_dup C dX7_init_134 rfl ?_
    refine X_iconst (v := (5:Int32)) C dX7_init_135 (by decide) ?_
    refine X_iconst (v := (3:Int32)) C dX7_init_136 (by decide) ?_
    refine X_callI (S0 := [.inl (7, [some 2, some 3, some 4, some 7, some 8, some 9, some 11, some 14, some 16, some 18, some 26, some 0, some 0, none, none]), .inr (0, 6), .inr (0, 4), .inl (0, [some 5, none]), .inl (6, [some 6, none, none, none]), .inr (0, 2800), .inl (2, [none, none, none, none, none, none, none]), .inl (1, [none, none, none, none, none, none, none, none, none, none]), .inl (6, [some 10, none, none, none]), .inr (0, 360), .inl (5, [some 12, some 13]), .inr (0, 3), .inr (0, 3), .inl (6, [some 15, none, none, none]), .inr (0, 32), .inl (6, [some 17, none, none, none]), .inr (0, 9), .inl (4, [some 19, some 20, some 21, some 22, some 23, some 24, some 25, none, none]), .inr (0, 8), .inr (0, 8), .inr (0, 8), .inr (0, 8), .inr (0, 8), .inr (0, 9), .inr (0, 3), .inl (6, [some 27, none, none, none]), .inr (0, 24)]) (s0 := .inl (6, [some 0, none, none, none])) (As := [.int ((5:Int32)), .int ((3:Int32))]) (rest := [.ref 27, .ref 0]) (n0 := 1) C hX aw_ok mcs 27 lk_X7_39 rfl rfl (by decide) (by decide) (by decide) rfl rfl (by decide) (fun _ _ _ _ => rfl) (fun _ => rfl) rfl rfl (fun _ => rfl) (by decide) rfl rfl (Nat.le_of_ble_eq_true rfl) dX7_init_137 (k_X6_init (5:Int32) (3:Int32) 15 (by decide) (by decide) (by decide) (by decide) (by decide)) ?_
    refine X_S (S' := [.inl (7, [some 2, some 3, some 4, some 7, some 8, some 9, some 11, some 14, some 16, some 18, some 26, some 0, some 0, none, none]), .inr (0, 6), .inr (0, 4), .inl (0, [some 5, none]), .inl (6, [some 6, none, none, none]), .inr (0, 2800), .inl (2, [none, none, none, none, none, none, none]), .inl (1, [none, none, none, none, none, none, none, none, none, none]), .inl (6, [some 10, none, none, none]), .inr (0, 360), .inl (5, [some 12, some 13]), .inr (0, 3), .inr (0, 3), .inl (6, [some 15, none, none, none]), .inr (0, 32), .inl (6, [some 17, none, none, none]), .inr (0, 9), .inl (4, [some 19, some 20, some 21, some 22, some 23, some 24, some 25, none, none]), .inr (0, 8), .inr (0, 8), .inr (0, 8), .inr (0, 8), .inr (0, 8), .inr (0, 9), .inr (0, 3), .inl (6, [some 27, none, none, none]), .inr (0, 24), .inl (6, [some 29, none, none, none]), .inr (0, 15)]) rfl ?_
    refine X_g (σ' := g_X7_init_9) rfl ?_
    refine X_putr (r := 27) (ty := .object "IronCampaign$Table") C 11 rfl nc_7 inM_7 (by decide) tyX7 tyX7_ok nmX7 (mc wd_73) rfl I rfl (by decide +kernel) (fun _ => ⟨rfl, rfl⟩) rfl dX7_init_140 ?_
    refine X_S (S' := [.inl (7, [some 2, some 3, some 4, some 7, some 8, some 9, some 11, some 14, some 16, some 18, some 26, some 28, some 0, none, none]), .inr (0, 6), .inr (0, 4), .inl (0, [some 5, none]), .inl (6, [some 6, none, none, none]), .inr (0, 2800), .inl (2, [none, none, none, none, none, none, none]), .inl (1, [none, none, none, none, none, none, none, none, none, none]), .inl (6, [some 10, none, none, none]), .inr (0, 360), .inl (5, [some 12, some 13]), .inr (0, 3), .inr (0, 3), .inl (6, [some 15, none, none, none]), .inr (0, 32), .inl (6, [some 17, none, none, none]), .inr (0, 9), .inl (4, [some 19, some 20, some 21, some 22, some 23, some 24, some 25, none, none]), .inr (0, 8), .inr (0, 8), .inr (0, 8), .inr (0, 8), .inr (0, 8), .inr (0, 9), .inr (0, 3), .inl (6, [some 27, none, none, none]), .inr (0, 24), .inl (6, [some 29, none, none, none]), .inr (0, 15)]) rfl ?_
    refine X_aload_n C 0 dX7_init_143 rfl rfl ?_
    refine X_new (fl := [some 0, some 0, some 0, some 0, some 0, some 0, none, none, none]) (n0 := 1) C hX 29 rfl (by decide) (by decide) rfl tyX3 tyX3_ok nc_3 inM_3 (mc wd_560) (mc wd_561) (mc wd_184) rfl (by decide) (fun _ => rfl) rfl rfl (by decide) dX7_init_144 ?_
    refine X_S (S' := [.inl (7, [some 2, some 3, some 4, some 7, some 8, some 9, some 11, some 14, some 16, some 18, some 26, some 28, some 0, none, none]), .inr (0, 6), .inr (0, 4), .inl (0, [some 5, none]), .inl (6, [some 6, none, none, none]), .inr (0, 2800), .inl (2, [none, none, none, none, none, none, none]), .inl (1, [none, none, none, none, none, none, none, none, none, none]), .inl (6, [some 10, none, none, none]), .inr (0, 360), .inl (5, [some 12, some 13]), .inr (0, 3), .inr (0, 3), .inl (6, [some 15, none, none, none]), .inr (0, 32), .inl (6, [some 17, none, none, none]), .inr (0, 9), .inl (4, [some 19, some 20, some 21, some 22, some 23, some 24, some 25, none, none]), .inr (0, 8), .inr (0, 8), .inr (0, 8), .inr (0, 8), .inr (0, 8), .inr (0, 9), .inr (0, 3), .inl (6, [some 27, none, none, none]), .inr (0, 24), .inl (6, [some 29, none, none, none]), .inr (0, 15), .inl (3, [some 0, some 0, some 0, some 0, some 0, some 0, none, none, none])]) rfl ?_
    refine X_dup C dX7_init_147 rfl ?_
    refine X_callN (S0 := [.inl (7, [some 2, some 3, some 4, some 7, some 8, some 9, some 11, some 14, some 16, some 18, some 26, some 28, some 0, none, none]), .inr (0, 6), .inr (0, 4), .inl (0, [some 5, none]), .inl (6, [some 6, none, none, none]), .inr (0, 2800), .inl (2, [none, none, none, none, none, none, none]), .inl (1, [none, none, none, none, none, none, none, none, none, none]), .inl (6, [some 10, none, none, none]), .inr (0, 360), .inl (5, [some 12, some 13]), .inr (0, 3), .inr (0, 3), .inl (6, [some 15, none, none, none]), .inr (0, 32), .inl (6, [some 17, none, none, none]), .inr (0, 9), .inl (4, [some 19, some 20, some 21, some 22, some 23, some 24, some 25, none, none]), .inr (0, 8), .inr (0, 8), .inr (0, 8), .inr (0, 8), .inr (0, 8), .inr (0, 9), .inr (0, 3), .inl (6, [some 27, none, none, none]), .inr (0, 24), .inl (6, [some 29, none, none, none]), .inr (0, 15)]) (s0 := .inl (3, [some 0, some 0, some 0, some 0, some 0, some 0, none, none, none])) (As := []) (rest := [.ref 29, .ref 0]) (n0 := 1) C hX aw_ok mcs 29 lk_X7_74 rfl rfl (by decide) (by decide) (by decide) rfl rfl (by decide) (fun _ _ _ _ => rfl) (fun _ => rfl) rfl rfl (fun _ => rfl) (by decide) rfl rfl (Nat.le_of_ble_eq_true rfl) dX7_init_148 k_X3_init ?_
    refine X_S (S' := [.inl (7, [some 2, some 3, some 4, some 7, some 8, some 9, some 11, some 14, some 16, some 18, some 26, some 28, some 0, none, none]), .inr (0, 6), .inr (0, 4), .inl (0, [some 5, none]), .inl (6, [some 6, none, none, none]), .inr (0, 2800), .inl (2, [none, none, none, none, none, none, none]), .inl (1, [none, none, none, none, none, none, none, none, none, none]), .inl (6, [some 10, none, none, none]), .inr (0, 360), .inl (5, [some 12, some 13]), .inr (0, 3), .inr (0, 3), .inl (6, [some 15, none, none, none]), .inr (0, 32), .inl (6, [some 17, none, none, none]), .inr (0, 9), .inl (4, [some 19, some 20, some 21, some 22, some 23, some 24, some 25, none, none]), .inr (0, 8), .inr (0, 8), .inr (0, 8), .inr (0, 8), .inr (0, 8), .inr (0, 9), .inr (0, 3), .inl (6, [some 27, none, none, none]), .inr (0, 24), .inl (6, [some 29, none, none, none]), .inr (0, 15), .inl (3, [some 31, some 32, some 33, some 34, some 35, some 36, none, none, none]), .inr (0, 6), .inr (0, 6), .inr (0, 7), .inr (0, 6), .inr (0, 6), .inr (0, 6)]) rfl ?_
    refine X_g (σ' := g_X7_init_10) rfl ?_
    refine X_putr (r := 29) (ty := .object "IronCampaign$Planner") C 12 rfl nc_7 inM_7 (by decide) tyX7 tyX7_ok nmX7 (mc wd_74) rfl I rfl (by decide +kernel) (fun _ => ⟨rfl, rfl⟩) rfl dX7_init_151 ?_
    refine X_S (S' := [.inl (7, [some 2, some 3, some 4, some 7, some 8, some 9, some 11, some 14, some 16, some 18, some 26, some 28, some 30, none, none]), .inr (0, 6), .inr (0, 4), .inl (0, [some 5, none]), .inl (6, [some 6, none, none, none]), .inr (0, 2800), .inl (2, [none, none, none, none, none, none, none]), .inl (1, [none, none, none, none, none, none, none, none, none, none]), .inl (6, [some 10, none, none, none]), .inr (0, 360), .inl (5, [some 12, some 13]), .inr (0, 3), .inr (0, 3), .inl (6, [some 15, none, none, none]), .inr (0, 32), .inl (6, [some 17, none, none, none]), .inr (0, 9), .inl (4, [some 19, some 20, some 21, some 22, some 23, some 24, some 25, none, none]), .inr (0, 8), .inr (0, 8), .inr (0, 8), .inr (0, 8), .inr (0, 8), .inr (0, 9), .inr (0, 3), .inl (6, [some 27, none, none, none]), .inr (0, 24), .inl (6, [some 29, none, none, none]), .inr (0, 15), .inl (3, [some 31, some 32, some 33, some 34, some 35, some 36, none, none, none]), .inr (0, 6), .inr (0, 6), .inr (0, 7), .inr (0, 6), .inr (0, 6), .inr (0, 6)]) rfl ?_
    refine X_aload_n C 0 dX7_init_154 rfl rfl ?_
    refine X_iconst (v := (0:Int32)) C dX7_init_155 (by decide) ?_
    refine X_puti0 C 13 rfl nc_7 inM_7 (by decide) tyX7 tyX7_ok nmX7 (mc wd_70) rfl (by decide +kernel) rfl dX7_init_156 ?_
    refine X_g (σ' := g_X7_init_11) rfl ?_
    refine X_aload_n C 0 dX7_init_159 rfl rfl ?_
    refine X_iconst (v := (0:Int32)) C dX7_init_160 (by decide) ?_
    refine X_puti0 C 14 rfl nc_7 inM_7 (by decide) tyX7 tyX7_ok nmX7 (mc wd_71) rfl (by decide +kernel) rfl dX7_init_161 ?_
    refine X_g (σ' := g_X7_init_12) rfl ?_
    refine X_iconst (v := (0:Int32)) C dX7_init_164 (by decide) ?_
    refine X_istore_n (L' := [(0, .ref 0), (1, .int ((0:Int32)))]) C [1, 0] dX7_init_165 rfl (by decide) rfl ?_
    exact h_X7_init_166 C Rr _ _ _ hf)

abbrev ws_X8_oneTick : List Cond := Cond.code yX8_oneTick cX8_oneTick 5 none :: AW
abbrev rm_X8_oneTick : Room := { frames := 2, cells := 0, slots := 0, locals := 42 }
def c_X8_oneTick_332 (N : Nat) (s : Sg) (v1 : Int32) (u1 : Int32) : Option (Sg) :=
gd (bz u1) (lt_ (sgu s 36 23 u1) (fun s1 => lt_ (sgu s1 36 18 ((s1 36 18) + ((1:Int32)))) (fun s2 => gd (!decide (((10:Int32)) = 0)) (bdv (f_X8_see s2 ((0:Int32)) ((s2 36 14) / ((10:Int32)))) (fun s3 => bdv (f_X8_see s3 ((1:Int32)) ((s3 36 16) - v1)) (fun s5 => bdv (f_X8_see s5 ((2:Int32)) (s5 36 15)) (fun s7 => some s7)))))))
set_option maxHeartbeats 4000000 in
set_option maxRecDepth 100000 in
theorem w_X8_oneTick_332 {X : Ctx} {N : Nat} {o : Sg} (C : Cx NM X cX8_oneTick 5 RX8 (ws_X8_oneTick) none rm_X8_oneTick) (Rr : Rx NM X 0 0 none SH o) (s : Sg) (v1 : Int32) (u1 : Int32) (hf : c_X8_oneTick_332 N s v1 u1 = some o) : XW NM X 5 0 0 SH s 332 [(0, .ref 36), (1, .int v1)] [.int u1, .ref 36] := by
  unfold c_X8_oneTick_332 at hf
  refine X_putz C 23 sh_36 nc_8 inM_8 (by decide) tyX8 tyX8_ok nmX8 (mc wd_113) rfl (by decide +kernel) rfl dX8_oneTick_332 hf (fun s1 hf => ?_)
  refine X_aload_n C 0 dX8_oneTick_335 rfl rfl ?_
  refine X_dup C dX8_oneTick_336 rfl ?_
  refine X_geti C 18 sh_36 nc_8 inM_8 (by decide) (mc wd_102) rfl dX8_oneTick_337 ?_
  refine X_iconst (v := (1:Int32)) C dX8_oneTick_340 (by decide) ?_
  refine X_iadd C dX8_oneTick_341 ?_
  refine X_puti C 18 sh_36 nc_8 inM_8 (by decide) tyX8 tyX8_ok nmX8 (mc wd_102) rfl (by decide +kernel) rfl dX8_oneTick_342 hf (fun s2 hf => ?_)
  refine X_aload_n C 0 dX8_oneTick_345 rfl rfl ?_
  refine X_iconst (v := (0:Int32)) C dX8_oneTick_346 (by decide) ?_
  refine X_aload_n C 0 dX8_oneTick_347 rfl rfl ?_
  refine X_geti C 14 sh_36 nc_8 inM_8 (by decide) (mc wd_104) rfl dX8_oneTick_348 ?_
  refine X_bipush (v := (10:Int32)) C dX8_oneTick_351 (by decide) ?_
  refine X_idiv C dX8_oneTick_353 hf (fun hf => ?_)
  refine X_callVv (As := [.int ((0:Int32)), .int ((s2 36 14) / ((10:Int32)))]) (rest := []) C aw_ok mcs lk_X8_182 sh_36 nc_8 (by decide) rfl rfl (Nat.le_of_ble_eq_true rfl) dX8_oneTick_354 hf (fun s h => k_X8_see _ _ _ s h) (fun s3 hf => ?_)
  refine X_aload_n C 0 dX8_oneTick_357 rfl rfl ?_
  refine X_iconst (v := (1:Int32)) C dX8_oneTick_358 (by decide) ?_
  refine X_aload_n C 0 dX8_oneTick_359 rfl rfl ?_
  refine X_geti C 16 sh_36 nc_8 inM_8 (by decide) (mc wd_105) rfl dX8_oneTick_360 ?_
  refine X_iload_n C 1 dX8_oneTick_363 rfl rfl ?_
  refine X_isub C dX8_oneTick_364 ?_
  refine X_callVv (As := [.int ((1:Int32)), .int ((s3 36 16) - v1)]) (rest := []) C aw_ok mcs lk_X8_182 sh_36 nc_8 (by decide) rfl rfl (Nat.le_of_ble_eq_true rfl) dX8_oneTick_365 hf (fun s h => k_X8_see _ _ _ s h) (fun s5 hf => ?_)
  refine X_aload_n C 0 dX8_oneTick_368 rfl rfl ?_
  refine X_iconst (v := (2:Int32)) C dX8_oneTick_369 (by decide) ?_
  refine X_aload_n C 0 dX8_oneTick_370 rfl rfl ?_
  refine X_geti C 15 sh_36 nc_8 inM_8 (by decide) (mc wd_92) rfl dX8_oneTick_371 ?_
  refine X_callVv (As := [.int ((2:Int32)), .int (s5 36 15)]) (rest := []) C aw_ok mcs lk_X8_182 sh_36 nc_8 (by decide) rfl rfl (Nat.le_of_ble_eq_true rfl) dX8_oneTick_374 hf (fun s h => k_X8_see _ _ _ s h) (fun s7 hf => ?_)
  exact X_vret C dX8_oneTick_377 hf Rr
def c_X8_oneTick_299 (N : Nat) (s : Sg) (v1 : Int32) : Option (Sg) :=
gd (!decide (((100:Int32)) = 0)) (lt_ (sgu s 36 17 ((s 36 17) + ((s 36 14) / ((100:Int32))))) (fun s1 => if (s1 36 17) < (s1 36 13) then
 c_X8_oneTick_332 N s1 v1 ((0:Int32))
 else
 c_X8_oneTick_332 N s1 v1 ((1:Int32))))
set_option maxHeartbeats 4000000 in
set_option maxRecDepth 100000 in
theorem w_X8_oneTick_299 {X : Ctx} {N : Nat} {o : Sg} (C : Cx NM X cX8_oneTick 5 RX8 (ws_X8_oneTick) none rm_X8_oneTick) (Rr : Rx NM X 0 0 none SH o) (s : Sg) (v1 : Int32) (hf : c_X8_oneTick_299 N s v1 = some o) : XW NM X 5 0 0 SH s 299 [(0, .ref 36), (1, .int v1)] [] := by
  unfold c_X8_oneTick_299 at hf
  refine X_aload_n C 0 dX8_oneTick_299 rfl rfl ?_
  refine X_dup C dX8_oneTick_300 rfl ?_
  refine X_geti C 17 sh_36 nc_8 inM_8 (by decide) (mc wd_112) rfl dX8_oneTick_301 ?_
  refine X_aload_n C 0 dX8_oneTick_304 rfl rfl ?_
  refine X_geti C 14 sh_36 nc_8 inM_8 (by decide) (mc wd_104) rfl dX8_oneTick_305 ?_
  refine X_bipush (v := (100:Int32)) C dX8_oneTick_308 (by decide) ?_
  refine X_idiv C dX8_oneTick_310 hf (fun hf => ?_)
  refine X_iadd C dX8_oneTick_311 ?_
  refine X_puti C 17 sh_36 nc_8 inM_8 (by decide) tyX8 tyX8_ok nmX8 (mc wd_112) rfl (by decide +kernel) rfl dX8_oneTick_312 hf (fun s1 hf => ?_)
  refine X_aload_n C 0 dX8_oneTick_315 rfl rfl ?_
  refine X_aload_n C 0 dX8_oneTick_316 rfl rfl ?_
  refine X_geti C 17 sh_36 nc_8 inM_8 (by decide) (mc wd_112) rfl dX8_oneTick_317 ?_
  refine X_aload_n C 0 dX8_oneTick_320 rfl rfl ?_
  refine X_geti C 13 sh_36 nc_8 inM_8 (by decide) (mc wd_91) rfl dX8_oneTick_321 ?_
  refine X_icmp_lt (tgt := 331) C dX8_oneTick_324 (by decide) hf (fun hf => ?_) (fun hf => ?_)
  · refine X_iconst (v := (0:Int32)) C dX8_oneTick_331 (by decide) ?_
    exact w_X8_oneTick_332 C Rr _ _ _ hf
  · refine X_iconst (v := (1:Int32)) C dX8_oneTick_327 (by decide) ?_
    refine X_goto (tgt := 332) C dX8_oneTick_328 (by decide) ?_
    exact w_X8_oneTick_332 C Rr _ _ _ hf
def c_X8_oneTick_241 (N : Nat) (s : Sg) (v1 : Int32) (u1 : Int32) : Option (Sg) :=
lt_ (sgu s 36 14 u1) (fun s1 => if (s1 36 15) ≤ (s1 36 12) then
 c_X8_oneTick_299 N s1 v1
 else
 lt_ (sgu s1 36 21 ((s1 36 21) + ((s1 36 15) - (s1 36 12)))) (fun s2 => lt_ (sgu s2 36 16 ((s2 36 16) + ((s2 36 15) - (s2 36 12)))) (fun s3 => lt_ (sgu s3 36 15 (s3 36 12)) (fun s4 => c_X8_oneTick_299 N s4 v1))))
set_option maxHeartbeats 4000000 in
set_option maxRecDepth 100000 in
theorem w_X8_oneTick_241 {X : Ctx} {N : Nat} {o : Sg} (C : Cx NM X cX8_oneTick 5 RX8 (ws_X8_oneTick) none rm_X8_oneTick) (Rr : Rx NM X 0 0 none SH o) (s : Sg) (v1 : Int32) (u1 : Int32) (hf : c_X8_oneTick_241 N s v1 u1 = some o) : XW NM X 5 0 0 SH s 241 [(0, .ref 36), (1, .int v1)] [.int u1, .ref 36] := by
  unfold c_X8_oneTick_241 at hf
  refine X_puti C 14 sh_36 nc_8 inM_8 (by decide) tyX8 tyX8_ok nmX8 (mc wd_104) rfl (by decide +kernel) rfl dX8_oneTick_241 hf (fun s1 hf => ?_)
  refine X_aload_n C 0 dX8_oneTick_244 rfl rfl ?_
  refine X_geti C 15 sh_36 nc_8 inM_8 (by decide) (mc wd_92) rfl dX8_oneTick_245 ?_
  refine X_aload_n C 0 dX8_oneTick_248 rfl rfl ?_
  refine X_geti C 12 sh_36 nc_8 inM_8 (by decide) (mc wd_90) rfl dX8_oneTick_249 ?_
  refine X_icmp_le (tgt := 299) C dX8_oneTick_252 (by decide) hf (fun hf => ?_) (fun hf => ?_)
  · exact w_X8_oneTick_299 C Rr _ _ hf
  · refine X_aload_n C 0 dX8_oneTick_255 rfl rfl ?_
    refine X_dup C dX8_oneTick_256 rfl ?_
    refine X_geti C 21 sh_36 nc_8 inM_8 (by decide) (mc wd_114) rfl dX8_oneTick_257 ?_
    refine X_aload_n C 0 dX8_oneTick_260 rfl rfl ?_
    refine X_geti C 15 sh_36 nc_8 inM_8 (by decide) (mc wd_92) rfl dX8_oneTick_261 ?_
    refine X_aload_n C 0 dX8_oneTick_264 rfl rfl ?_
    refine X_geti C 12 sh_36 nc_8 inM_8 (by decide) (mc wd_90) rfl dX8_oneTick_265 ?_
    refine X_isub C dX8_oneTick_268 ?_
    refine X_iadd C dX8_oneTick_269 ?_
    refine X_puti C 21 sh_36 nc_8 inM_8 (by decide) tyX8 tyX8_ok nmX8 (mc wd_114) rfl (by decide +kernel) rfl dX8_oneTick_270 hf (fun s2 hf => ?_)
    refine X_aload_n C 0 dX8_oneTick_273 rfl rfl ?_
    refine X_dup C dX8_oneTick_274 rfl ?_
    refine X_geti C 16 sh_36 nc_8 inM_8 (by decide) (mc wd_105) rfl dX8_oneTick_275 ?_
    refine X_aload_n C 0 dX8_oneTick_278 rfl rfl ?_
    refine X_geti C 15 sh_36 nc_8 inM_8 (by decide) (mc wd_92) rfl dX8_oneTick_279 ?_
    refine X_aload_n C 0 dX8_oneTick_282 rfl rfl ?_
    refine X_geti C 12 sh_36 nc_8 inM_8 (by decide) (mc wd_90) rfl dX8_oneTick_283 ?_
    refine X_isub C dX8_oneTick_286 ?_
    refine X_iadd C dX8_oneTick_287 ?_
    refine X_puti C 16 sh_36 nc_8 inM_8 (by decide) tyX8 tyX8_ok nmX8 (mc wd_105) rfl (by decide +kernel) rfl dX8_oneTick_288 hf (fun s3 hf => ?_)
    refine X_aload_n C 0 dX8_oneTick_291 rfl rfl ?_
    refine X_aload_n C 0 dX8_oneTick_292 rfl rfl ?_
    refine X_geti C 12 sh_36 nc_8 inM_8 (by decide) (mc wd_90) rfl dX8_oneTick_293 ?_
    refine X_puti C 15 sh_36 nc_8 inM_8 (by decide) tyX8 tyX8_ok nmX8 (mc wd_92) rfl (by decide +kernel) rfl dX8_oneTick_296 hf (fun s4 hf => ?_)
    exact w_X8_oneTick_299 C Rr _ _ hf
def c_X8_oneTick_193 (N : Nat) (s : Sg) (v1 : Int32) (v3 : Int32) : Option (Sg) :=
lt_ (sgu s 36 14 (((s 36 14) + (((8:Int32)) * v3)) - ((40:Int32)))) (fun s1 => if 0 ≤ (s1 36 14) then
 if (s1 36 14) ≤ ((1000:Int32)) then
 c_X8_oneTick_241 N s1 v1 (s1 36 14)
 else
 c_X8_oneTick_241 N s1 v1 ((1000:Int32))
 else
 c_X8_oneTick_241 N s1 v1 ((0:Int32)))
set_option maxHeartbeats 4000000 in
set_option maxRecDepth 100000 in
theorem w_X8_oneTick_193 {X : Ctx} {N : Nat} {o : Sg} (C : Cx NM X cX8_oneTick 5 RX8 (ws_X8_oneTick) none rm_X8_oneTick) (Rr : Rx NM X 0 0 none SH o) (s : Sg) (v1 : Int32) (v3 : Int32) (hf : c_X8_oneTick_193 N s v1 v3 = some o) : XW NM X 5 0 0 SH s 193 [(0, .ref 36), (1, .int v1), (3, .int v3)] [] := by
  unfold c_X8_oneTick_193 at hf
  refine X_aload_n C 0 dX8_oneTick_193 rfl rfl ?_
  refine X_aload_n C 0 dX8_oneTick_194 rfl rfl ?_
  refine X_geti C 14 sh_36 nc_8 inM_8 (by decide) (mc wd_104) rfl dX8_oneTick_195 ?_
  refine X_bipush (v := (8:Int32)) C dX8_oneTick_198 (by decide) ?_
  refine X_iload_n C 2 dX8_oneTick_200 rfl rfl ?_
  refine X_imul C dX8_oneTick_201 ?_
  refine X_iadd C dX8_oneTick_202 ?_
  refine X_bipush (v := (40:Int32)) C dX8_oneTick_203 (by decide) ?_
  refine X_isub C dX8_oneTick_205 ?_
  refine X_puti C 14 sh_36 nc_8 inM_8 (by decide) tyX8 tyX8_ok nmX8 (mc wd_104) rfl (by decide +kernel) rfl dX8_oneTick_206 hf (fun s1 hf => ?_)
  refine X_aload_n C 0 dX8_oneTick_209 rfl rfl ?_
  refine X_aload_n C 0 dX8_oneTick_210 rfl rfl ?_
  refine X_geti C 14 sh_36 nc_8 inM_8 (by decide) (mc wd_104) rfl dX8_oneTick_211 ?_
  refine X_if_ge (tgt := 221) C dX8_oneTick_214 (by decide) hf (fun hf => ?_) (fun hf => ?_)
  · refine X_aload_n C 0 dX8_oneTick_221 rfl rfl ?_
    refine X_geti C 14 sh_36 nc_8 inM_8 (by decide) (mc wd_104) rfl dX8_oneTick_222 ?_
    refine X_sipush (v := (1000:Int32)) C dX8_oneTick_225 (by decide) ?_
    refine X_icmp_le (tgt := 237) C dX8_oneTick_228 (by decide) hf (fun hf => ?_) (fun hf => ?_)
    · refine X_aload_n C 0 dX8_oneTick_237 rfl rfl ?_
      refine X_geti C 14 sh_36 nc_8 inM_8 (by decide) (mc wd_104) rfl dX8_oneTick_238 ?_
      refine X_loc (L' := [(0, .ref 36), (1, .int v1)]) [0, 1] rfl ?_
      exact w_X8_oneTick_241 C Rr _ _ _ hf
    · refine X_sipush (v := (1000:Int32)) C dX8_oneTick_231 (by decide) ?_
      refine X_goto (tgt := 241) C dX8_oneTick_234 (by decide) ?_
      refine X_loc (L' := [(0, .ref 36), (1, .int v1)]) [0, 1] rfl ?_
      exact w_X8_oneTick_241 C Rr _ _ _ hf
  · refine X_iconst (v := (0:Int32)) C dX8_oneTick_217 (by decide) ?_
    refine X_goto (tgt := 241) C dX8_oneTick_218 (by decide) ?_
    refine X_loc (L' := [(0, .ref 36), (1, .int v1)]) [0, 1] rfl ?_
    exact w_X8_oneTick_241 C Rr _ _ _ hf
def c_X8_oneTick_163 (N : Nat) (K163 : Sg → Int32 → Int32 → Option (Sg)) (s : Sg) (v1 : Int32) (v3 : Int32) : Option (Sg) :=
if (s 36 2) ≤ (s 36 3) then
 c_X8_oneTick_193 N s v1 v3
 else
 gd (vi (s 36 3) 400) (if (s 40 (s 36 3).toNatClampNeg) = 0 then
 bdv (f_X8_comesDown s) (fun s1 => K163 s1 v1 v3)
 else
 c_X8_oneTick_193 N s v1 v3)
set_option maxHeartbeats 4000000 in
set_option maxRecDepth 100000 in
theorem w_X8_oneTick_163 {X : Ctx} {N : Nat} {o : Sg} (C : Cx NM X cX8_oneTick 5 RX8 (ws_X8_oneTick) none rm_X8_oneTick) (Rr : Rx NM X 0 0 none SH o) {K163 : Sg → Int32 → Int32 → Option (Sg)} (hK163 : ∀ (s : Sg) (v1 : Int32) (v3 : Int32), K163 s v1 v3 = some o → XW NM X 5 0 0 SH s 163 [(0, .ref 36), (1, .int v1), (3, .int v3)] []) (s : Sg) (v1 : Int32) (v3 : Int32) (hf : c_X8_oneTick_163 N K163 s v1 v3 = some o) : XW NM X 5 0 0 SH s 163 [(0, .ref 36), (1, .int v1), (3, .int v3)] [] := by
  unfold c_X8_oneTick_163 at hf
  refine X_aload_n C 0 dX8_oneTick_163 rfl rfl ?_
  refine X_geti C 3 sh_36 nc_8 inM_8 (by decide) (mc wd_80) rfl dX8_oneTick_164 ?_
  refine X_aload_n C 0 dX8_oneTick_167 rfl rfl ?_
  refine X_geti C 2 sh_36 nc_8 inM_8 (by decide) (mc wd_79) rfl dX8_oneTick_168 ?_
  refine X_icmp_ge (tgt := 193) C dX8_oneTick_171 (by decide) hf (fun hf => ?_) (fun hf => ?_)
  · exact w_X8_oneTick_193 C Rr _ _ _ hf
  · refine X_aload_n C 0 dX8_oneTick_174 rfl rfl ?_
    refine X_getr C 5 sh_36 nc_8 inM_8 (by decide) (mc wd_82) rfl dX8_oneTick_175 ?_
    refine X_aload_n C 0 dX8_oneTick_178 rfl rfl ?_
    refine X_geti C 3 sh_36 nc_8 inM_8 (by decide) (mc wd_80) rfl dX8_oneTick_179 ?_
    refine X_iald C sh_40 dX8_oneTick_182 hf (fun hf => ?_)
    refine X_if_ne (tgt := 193) C dX8_oneTick_183 (by decide) hf (fun hf => ?_) (fun hf => ?_)
    · exact w_X8_oneTick_193 C Rr _ _ _ hf
    · refine X_aload_n C 0 dX8_oneTick_186 rfl rfl ?_
      refine X_callVv (As := []) (rest := []) C aw_ok mcs lk_X8_166 sh_36 nc_8 (by decide) rfl rfl (Nat.le_of_ble_eq_true rfl) dX8_oneTick_187 hf (fun s h => k_X8_comesDown _ s h) (fun s1 hf => ?_)
      refine X_goto (tgt := 163) C dX8_oneTick_190 (by decide) ?_
      exact hK163 _ _ _ hf
def b_X8_oneTick_163 (N : Nat) : Nat → Sg → Int32 → Int32 → Option (Sg)
  | 0, _, _, _ => none
  | j + 1, s, v1, v3 => c_X8_oneTick_163 N (b_X8_oneTick_163 N j) s v1 v3
theorem h_X8_oneTick_163 {X : Ctx} {N : Nat} {o : Sg} (C : Cx NM X cX8_oneTick 5 RX8 (ws_X8_oneTick) none rm_X8_oneTick) (Rr : Rx NM X 0 0 none SH o) : ∀ (j : Nat) (s : Sg) (v1 : Int32) (v3 : Int32), b_X8_oneTick_163 N j s v1 v3 = some o → XW NM X 5 0 0 SH s 163 [(0, .ref 36), (1, .int v1), (3, .int v3)] [] := by
  intro j
  induction j with
  | zero => intro s v1 v3 hf; cases (show none = some o from hf)
  | succ j ih => intro s v1 v3 hf; exact w_X8_oneTick_163 C Rr ih s v1 v3 hf
def c_X8_oneTick_146 (N : Nat) (s : Sg) (v1 : Int32) (v2 : Int32) : Option (Sg) :=
lt_ ((s 36 11) - v2) (fun x1 => lt_ (sgu s 36 19 ((s 36 19) + x1)) (fun s2 => b_X8_oneTick_163 N N s2 v1 x1))
set_option maxHeartbeats 4000000 in
set_option maxRecDepth 100000 in
theorem w_X8_oneTick_146 {X : Ctx} {N : Nat} {o : Sg} (C : Cx NM X cX8_oneTick 5 RX8 (ws_X8_oneTick) none rm_X8_oneTick) (Rr : Rx NM X 0 0 none SH o) (s : Sg) (v1 : Int32) (v2 : Int32) (hf : c_X8_oneTick_146 N s v1 v2 = some o) : XW NM X 5 0 0 SH s 146 [(0, .ref 36), (1, .int v1), (2, .int v2)] [] := by
  unfold c_X8_oneTick_146 at hf
  refine X_aload_n C 0 dX8_oneTick_146 rfl rfl ?_
  refine X_geti C 11 sh_36 nc_8 inM_8 (by decide) (mc wd_88) rfl dX8_oneTick_147 ?_
  refine X_iload_n C 2 dX8_oneTick_150 rfl rfl ?_
  refine X_isub C dX8_oneTick_151 ?_
  refine X_nm hf (fun x1 hf => ?_)
  refine X_istore_n (L' := [(0, .ref 36), (1, .int v1), (2, .int v2), (3, .int x1)]) C [1, 2, 3, 0] dX8_oneTick_152 rfl (by decide) rfl ?_
  refine X_aload_n C 0 dX8_oneTick_153 rfl rfl ?_
  refine X_dup C dX8_oneTick_154 rfl ?_
  refine X_geti C 19 sh_36 nc_8 inM_8 (by decide) (mc wd_111) rfl dX8_oneTick_155 ?_
  refine X_iload_n C 3 dX8_oneTick_158 rfl rfl ?_
  refine X_iadd C dX8_oneTick_159 ?_
  refine X_puti C 19 sh_36 nc_8 inM_8 (by decide) tyX8 tyX8_ok nmX8 (mc wd_111) rfl (by decide +kernel) rfl dX8_oneTick_160 hf (fun s2 hf => ?_)
  refine X_loc (L' := [(0, .ref 36), (1, .int v1), (3, .int x1)]) [0, 1, 3] rfl ?_
  exact h_X8_oneTick_163 C Rr _ _ _ _ hf
def c_X8_oneTick_122 (N : Nat) (K90 : Sg → Int32 → Int32 → Int32 → Option (Sg)) (s : Sg) (v1 : Int32) (v2 : Int32) (v3 : Int32) (u0 : Int32) : Option (Sg) :=
gd (vi v3 400) (gd (vi v3 400) (lt_ (sgu s 40 v3.toNatClampNeg ((s 40 v3.toNatClampNeg) - u0)) (fun s1 => lt_ (v2 - u0) (fun x2 => K90 s1 v1 x2 (v3 + (1:Int32))))))
set_option maxHeartbeats 4000000 in
set_option maxRecDepth 100000 in
theorem w_X8_oneTick_122 {X : Ctx} {N : Nat} {o : Sg} (C : Cx NM X cX8_oneTick 5 RX8 (ws_X8_oneTick) none rm_X8_oneTick) (Rr : Rx NM X 0 0 none SH o) {K90 : Sg → Int32 → Int32 → Int32 → Option (Sg)} (hK90 : ∀ (s : Sg) (v1 : Int32) (v2 : Int32) (v3 : Int32), K90 s v1 v2 v3 = some o → XW NM X 5 0 0 SH s 90 [(0, .ref 36), (1, .int v1), (2, .int v2), (3, .int v3)] []) (s : Sg) (v1 : Int32) (v2 : Int32) (v3 : Int32) (u0 : Int32) (hf : c_X8_oneTick_122 N K90 s v1 v2 v3 u0 = some o) : XW NM X 5 0 0 SH s 122 [(0, .ref 36), (1, .int v1), (2, .int v2), (3, .int v3)] [.int u0] := by
  unfold c_X8_oneTick_122 at hf
  refine X_istore (L' := [(0, .ref 36), (1, .int v1), (2, .int v2), (3, .int v3), (4, .int u0)]) C [1, 2, 3, 4, 0] dX8_oneTick_122 (by decide) rfl ?_
  refine X_aload_n C 0 dX8_oneTick_124 rfl rfl ?_
  refine X_getr C 5 sh_36 nc_8 inM_8 (by decide) (mc wd_82) rfl dX8_oneTick_125 ?_
  refine X_iload_n C 3 dX8_oneTick_128 rfl rfl ?_
  refine X_dup2 C dX8_oneTick_129 rfl rfl ?_
  refine X_iald C sh_40 dX8_oneTick_130 hf (fun hf => ?_)
  refine X_iload C 4 dX8_oneTick_131 rfl ?_
  refine X_isub C dX8_oneTick_133 ?_
  refine X_iast C sh_40 dX8_oneTick_134 hf (fun s1 hf => ?_)
  refine X_iload_n C 2 dX8_oneTick_135 rfl rfl ?_
  refine X_iload C 4 dX8_oneTick_136 rfl ?_
  refine X_isub C dX8_oneTick_138 ?_
  refine X_nm hf (fun x2 hf => ?_)
  refine X_istore_n (L' := [(0, .ref 36), (1, .int v1), (2, .int x2), (3, .int v3), (4, .int u0)]) C [1, 2, 0, 3, 4] dX8_oneTick_139 rfl (by decide) rfl ?_
  refine X_iinc (v := (1:Int32)) (L' := [(0, .ref 36), (1, .int v1), (2, .int x2), (3, .int (v3 + (1:Int32))), (4, .int u0)]) C 3 [1, 2, 3, 0, 4] dX8_oneTick_140 rfl (by decide) (by decide) rfl ?_
  refine X_goto (tgt := 90) C dX8_oneTick_143 (by decide) ?_
  refine X_loc (L' := [(0, .ref 36), (1, .int v1), (2, .int x2), (3, .int (v3 + (1:Int32)))]) [0, 1, 2, 3] rfl ?_
  exact hK90 _ _ _ _ hf
def c_X8_oneTick_90 (N : Nat) (K90 : Sg → Int32 → Int32 → Int32 → Option (Sg)) (s : Sg) (v1 : Int32) (v2 : Int32) (v3 : Int32) : Option (Sg) :=
if (s 36 2) ≤ v3 then
 c_X8_oneTick_146 N s v1 v2
 else
 if v2 ≤ 0 then
 c_X8_oneTick_146 N s v1 v2
 else
 gd (vi v3 400) (if v2 ≤ (s 40 v3.toNatClampNeg) then
 c_X8_oneTick_122 N K90 s v1 v2 v3 v2
 else
 gd (vi v3 400) (c_X8_oneTick_122 N K90 s v1 v2 v3 (s 40 v3.toNatClampNeg)))
set_option maxHeartbeats 4000000 in
set_option maxRecDepth 100000 in
theorem w_X8_oneTick_90 {X : Ctx} {N : Nat} {o : Sg} (C : Cx NM X cX8_oneTick 5 RX8 (ws_X8_oneTick) none rm_X8_oneTick) (Rr : Rx NM X 0 0 none SH o) {K90 : Sg → Int32 → Int32 → Int32 → Option (Sg)} (hK90 : ∀ (s : Sg) (v1 : Int32) (v2 : Int32) (v3 : Int32), K90 s v1 v2 v3 = some o → XW NM X 5 0 0 SH s 90 [(0, .ref 36), (1, .int v1), (2, .int v2), (3, .int v3)] []) (s : Sg) (v1 : Int32) (v2 : Int32) (v3 : Int32) (hf : c_X8_oneTick_90 N K90 s v1 v2 v3 = some o) : XW NM X 5 0 0 SH s 90 [(0, .ref 36), (1, .int v1), (2, .int v2), (3, .int v3)] [] := by
  unfold c_X8_oneTick_90 at hf
  refine X_iload_n C 3 dX8_oneTick_90 rfl rfl ?_
  refine X_aload_n C 0 dX8_oneTick_91 rfl rfl ?_
  refine X_geti C 2 sh_36 nc_8 inM_8 (by decide) (mc wd_79) rfl dX8_oneTick_92 ?_
  refine X_icmp_ge (tgt := 146) C dX8_oneTick_95 (by decide) hf (fun hf => ?_) (fun hf => ?_)
  · refine X_loc (L' := [(0, .ref 36), (1, .int v1), (2, .int v2)]) [0, 1, 2] rfl ?_
    exact w_X8_oneTick_146 C Rr _ _ _ hf
  · refine X_iload_n C 2 dX8_oneTick_98 rfl rfl ?_
    refine X_if_le (tgt := 146) C dX8_oneTick_99 (by decide) hf (fun hf => ?_) (fun hf => ?_)
    · refine X_loc (L' := [(0, .ref 36), (1, .int v1), (2, .int v2)]) [0, 1, 2] rfl ?_
      exact w_X8_oneTick_146 C Rr _ _ _ hf
    · refine X_aload_n C 0 dX8_oneTick_102 rfl rfl ?_
      refine X_getr C 5 sh_36 nc_8 inM_8 (by decide) (mc wd_82) rfl dX8_oneTick_103 ?_
      refine X_iload_n C 3 dX8_oneTick_106 rfl rfl ?_
      refine X_iald C sh_40 dX8_oneTick_107 hf (fun hf => ?_)
      refine X_iload_n C 2 dX8_oneTick_108 rfl rfl ?_
      refine X_icmp_ge (tgt := 121) C dX8_oneTick_109 (by decide) hf (fun hf => ?_) (fun hf => ?_)
      · refine X_iload_n C 2 dX8_oneTick_121 rfl rfl ?_
        exact w_X8_oneTick_122 C Rr hK90 _ _ _ _ _ hf
      · refine X_aload_n C 0 dX8_oneTick_112 rfl rfl ?_
        refine X_getr C 5 sh_36 nc_8 inM_8 (by decide) (mc wd_82) rfl dX8_oneTick_113 ?_
        refine X_iload_n C 3 dX8_oneTick_116 rfl rfl ?_
        refine X_iald C sh_40 dX8_oneTick_117 hf (fun hf => ?_)
        refine X_goto (tgt := 122) C dX8_oneTick_118 (by decide) ?_
        exact w_X8_oneTick_122 C Rr hK90 _ _ _ _ _ hf
def b_X8_oneTick_90 (N : Nat) : Nat → Sg → Int32 → Int32 → Int32 → Option (Sg)
  | 0, _, _, _, _ => none
  | j + 1, s, v1, v2, v3 => c_X8_oneTick_90 N (b_X8_oneTick_90 N j) s v1 v2 v3
theorem h_X8_oneTick_90 {X : Ctx} {N : Nat} {o : Sg} (C : Cx NM X cX8_oneTick 5 RX8 (ws_X8_oneTick) none rm_X8_oneTick) (Rr : Rx NM X 0 0 none SH o) : ∀ (j : Nat) (s : Sg) (v1 : Int32) (v2 : Int32) (v3 : Int32), b_X8_oneTick_90 N j s v1 v2 v3 = some o → XW NM X 5 0 0 SH s 90 [(0, .ref 36), (1, .int v1), (2, .int v2), (3, .int v3)] [] := by
  intro j
  induction j with
  | zero => intro s v1 v2 v3 hf; cases (show none = some o from hf)
  | succ j ih => intro s v1 v2 v3 hf; exact w_X8_oneTick_90 C Rr ih s v1 v2 v3 hf
def c_X8_oneTick_75 (N : Nat) (s : Sg) : Option (Sg) :=
lt_ (s 36 16) (fun x1 => lt_ (s 36 11) (fun x2 => lt_ (s 36 3) (fun x3 => b_X8_oneTick_90 N N s x1 x2 x3)))
set_option maxHeartbeats 4000000 in
set_option maxRecDepth 100000 in
theorem w_X8_oneTick_75 {X : Ctx} {N : Nat} {o : Sg} (C : Cx NM X cX8_oneTick 5 RX8 (ws_X8_oneTick) none rm_X8_oneTick) (Rr : Rx NM X 0 0 none SH o) (s : Sg) (hf : c_X8_oneTick_75 N s = some o) : XW NM X 5 0 0 SH s 75 [(0, .ref 36)] [] := by
  unfold c_X8_oneTick_75 at hf
  refine X_aload_n C 0 dX8_oneTick_75 rfl rfl ?_
  refine X_geti C 16 sh_36 nc_8 inM_8 (by decide) (mc wd_105) rfl dX8_oneTick_76 ?_
  refine X_nm hf (fun x1 hf => ?_)
  refine X_istore_n (L' := [(0, .ref 36), (1, .int x1)]) C [1, 0] dX8_oneTick_79 rfl (by decide) rfl ?_
  refine X_aload_n C 0 dX8_oneTick_80 rfl rfl ?_
  refine X_geti C 11 sh_36 nc_8 inM_8 (by decide) (mc wd_88) rfl dX8_oneTick_81 ?_
  refine X_nm hf (fun x2 hf => ?_)
  refine X_istore_n (L' := [(0, .ref 36), (1, .int x1), (2, .int x2)]) C [1, 2, 0] dX8_oneTick_84 rfl (by decide) rfl ?_
  refine X_aload_n C 0 dX8_oneTick_85 rfl rfl ?_
  refine X_geti C 3 sh_36 nc_8 inM_8 (by decide) (mc wd_80) rfl dX8_oneTick_86 ?_
  refine X_nm hf (fun x3 hf => ?_)
  refine X_istore_n (L' := [(0, .ref 36), (1, .int x1), (2, .int x2), (3, .int x3)]) C [1, 2, 3, 0] dX8_oneTick_89 rfl (by decide) rfl ?_
  exact h_X8_oneTick_90 C Rr _ _ _ _ _ hf
def c_X8_oneTick_69 (N : Nat) (K2 : Sg → Int32 → Option (Sg)) (s : Sg) (v1 : Int32) : Option (Sg) :=
K2 s (v1 + (1:Int32))
set_option maxHeartbeats 4000000 in
set_option maxRecDepth 100000 in
theorem w_X8_oneTick_69 {X : Ctx} {N : Nat} {o : Sg} (C : Cx NM X cX8_oneTick 5 RX8 (ws_X8_oneTick) none rm_X8_oneTick) (Rr : Rx NM X 0 0 none SH o) {K2 : Sg → Int32 → Option (Sg)} (hK2 : ∀ (s : Sg) (v1 : Int32), K2 s v1 = some o → XW NM X 5 0 0 SH s 2 [(0, .ref 36), (1, .int v1)] []) (s : Sg) (v1 : Int32) (hf : c_X8_oneTick_69 N K2 s v1 = some o) : XW NM X 5 0 0 SH s 69 [(0, .ref 36), (1, .int v1)] [] := by
  unfold c_X8_oneTick_69 at hf
  refine X_iinc (v := (1:Int32)) (L' := [(0, .ref 36), (1, .int (v1 + (1:Int32)))]) C 1 [1, 0] dX8_oneTick_69 rfl (by decide) (by decide) rfl ?_
  refine X_goto (tgt := 2) C dX8_oneTick_72 (by decide) ?_
  exact hK2 _ _ hf
def c_X8_oneTick_59 (N : Nat) (K2 : Sg → Int32 → Option (Sg)) (s : Sg) (v1 : Int32) : Option (Sg) :=
gd (vi v1 8) (bdv (f_X8_act s (s 57 v1.toNatClampNeg)) (fun s1 => c_X8_oneTick_69 N K2 s1 v1))
set_option maxHeartbeats 4000000 in
set_option maxRecDepth 100000 in
theorem w_X8_oneTick_59 {X : Ctx} {N : Nat} {o : Sg} (C : Cx NM X cX8_oneTick 5 RX8 (ws_X8_oneTick) none rm_X8_oneTick) (Rr : Rx NM X 0 0 none SH o) {K2 : Sg → Int32 → Option (Sg)} (hK2 : ∀ (s : Sg) (v1 : Int32), K2 s v1 = some o → XW NM X 5 0 0 SH s 2 [(0, .ref 36), (1, .int v1)] []) (s : Sg) (v1 : Int32) (hf : c_X8_oneTick_59 N K2 s v1 = some o) : XW NM X 5 0 0 SH s 59 [(0, .ref 36), (1, .int v1)] [] := by
  unfold c_X8_oneTick_59 at hf
  refine X_aload_n C 0 dX8_oneTick_59 rfl rfl ?_
  refine X_aload_n C 0 dX8_oneTick_60 rfl rfl ?_
  refine X_getr C 40 sh_36 nc_8 inM_8 (by decide) (mc wd_118) rfl dX8_oneTick_61 ?_
  refine X_iload_n C 1 dX8_oneTick_64 rfl rfl ?_
  refine X_iald C sh_57 dX8_oneTick_65 hf (fun hf => ?_)
  refine X_callVv (As := [.int (s 57 v1.toNatClampNeg)]) (rest := []) C aw_ok mcs lk_X8_159 sh_36 nc_8 (by decide) rfl rfl (Nat.le_of_ble_eq_true rfl) dX8_oneTick_66 hf (fun s h => k_X8_act _ _ s h) (fun s1 hf => ?_)
  exact w_X8_oneTick_69 C Rr hK2 _ _ hf
def c_X8_oneTick_2 (N : Nat) (K2 : Sg → Int32 → Option (Sg)) (s : Sg) (v1 : Int32) : Option (Sg) :=
if (s 36 36) ≤ v1 then
 c_X8_oneTick_75 N s
 else
 gd (vi v1 8) (gd (vi (s 54 v1.toNatClampNeg) 3) (lt_ (s 52 (s 54 v1.toNatClampNeg).toNatClampNeg) (fun x1 => if x1 = ((-1:Int32)) then
 c_X8_oneTick_69 N K2 s v1
 else
 gd (vi v1 8) (if (s 55 v1.toNatClampNeg) = 0 then
 gd (vi v1 8) (if (s 56 v1.toNatClampNeg) ≤ x1 then
 c_X8_oneTick_69 N K2 s v1
 else
 c_X8_oneTick_59 N K2 s v1)
 else
 gd (vi v1 8) (if x1 ≤ (s 56 v1.toNatClampNeg) then
 c_X8_oneTick_69 N K2 s v1
 else
 c_X8_oneTick_59 N K2 s v1)))))
set_option maxHeartbeats 4000000 in
set_option maxRecDepth 100000 in
theorem w_X8_oneTick_2 {X : Ctx} {N : Nat} {o : Sg} (C : Cx NM X cX8_oneTick 5 RX8 (ws_X8_oneTick) none rm_X8_oneTick) (Rr : Rx NM X 0 0 none SH o) {K2 : Sg → Int32 → Option (Sg)} (hK2 : ∀ (s : Sg) (v1 : Int32), K2 s v1 = some o → XW NM X 5 0 0 SH s 2 [(0, .ref 36), (1, .int v1)] []) (s : Sg) (v1 : Int32) (hf : c_X8_oneTick_2 N K2 s v1 = some o) : XW NM X 5 0 0 SH s 2 [(0, .ref 36), (1, .int v1)] [] := by
  unfold c_X8_oneTick_2 at hf
  refine X_iload_n C 1 dX8_oneTick_2 rfl rfl ?_
  refine X_aload_n C 0 dX8_oneTick_3 rfl rfl ?_
  refine X_geti C 36 sh_36 nc_8 inM_8 (by decide) (mc wd_110) rfl dX8_oneTick_4 ?_
  refine X_icmp_ge (tgt := 75) C dX8_oneTick_7 (by decide) hf (fun hf => ?_) (fun hf => ?_)
  · refine X_loc (L' := [(0, .ref 36)]) [0] rfl ?_
    exact w_X8_oneTick_75 C Rr _ hf
  · refine X_aload_n C 0 dX8_oneTick_10 rfl rfl ?_
    refine X_getr C 34 sh_36 nc_8 inM_8 (by decide) (mc wd_108) rfl dX8_oneTick_11 ?_
    refine X_aload_n C 0 dX8_oneTick_14 rfl rfl ?_
    refine X_getr C 37 sh_36 nc_8 inM_8 (by decide) (mc wd_115) rfl dX8_oneTick_15 ?_
    refine X_iload_n C 1 dX8_oneTick_18 rfl rfl ?_
    refine X_iald C sh_54 dX8_oneTick_19 hf (fun hf => ?_)
    refine X_iald C sh_52 dX8_oneTick_20 hf (fun hf => ?_)
    refine X_nm hf (fun x1 hf => ?_)
    refine X_istore_n (L' := [(0, .ref 36), (1, .int v1), (2, .int x1)]) C [1, 2, 0] dX8_oneTick_21 rfl (by decide) rfl ?_
    refine X_iload_n C 2 dX8_oneTick_22 rfl rfl ?_
    refine X_iconst (v := (-1:Int32)) C dX8_oneTick_23 (by decide) ?_
    refine X_icmp_eq (tgt := 69) C dX8_oneTick_24 (by decide) hf (fun hf => ?_) (fun hf => ?_)
    · refine X_loc (L' := [(0, .ref 36), (1, .int v1)]) [0, 1] rfl ?_
      exact w_X8_oneTick_69 C Rr hK2 _ _ hf
    · refine X_aload_n C 0 dX8_oneTick_27 rfl rfl ?_
      refine X_getr C 38 sh_36 nc_8 inM_8 (by decide) (mc wd_116) rfl dX8_oneTick_28 ?_
      refine X_iload_n C 1 dX8_oneTick_31 rfl rfl ?_
      refine X_zald C sh_55 dX8_oneTick_32 hf (fun hf => ?_)
      refine X_if_eq (tgt := 49) C dX8_oneTick_33 (by decide) hf (fun hf => ?_) (fun hf => ?_)
      · refine X_iload_n C 2 dX8_oneTick_49 rfl rfl ?_
        refine X_aload_n C 0 dX8_oneTick_50 rfl rfl ?_
        refine X_getr C 39 sh_36 nc_8 inM_8 (by decide) (mc wd_117) rfl dX8_oneTick_51 ?_
        refine X_iload_n C 1 dX8_oneTick_54 rfl rfl ?_
        refine X_iald C sh_56 dX8_oneTick_55 hf (fun hf => ?_)
        refine X_icmp_ge (tgt := 69) C dX8_oneTick_56 (by decide) hf (fun hf => ?_) (fun hf => ?_)
        · refine X_loc (L' := [(0, .ref 36), (1, .int v1)]) [0, 1] rfl ?_
          exact w_X8_oneTick_69 C Rr hK2 _ _ hf
        · refine X_loc (L' := [(0, .ref 36), (1, .int v1)]) [0, 1] rfl ?_
          exact w_X8_oneTick_59 C Rr hK2 _ _ hf
      · refine X_iload_n C 2 dX8_oneTick_36 rfl rfl ?_
        refine X_aload_n C 0 dX8_oneTick_37 rfl rfl ?_
        refine X_getr C 39 sh_36 nc_8 inM_8 (by decide) (mc wd_117) rfl dX8_oneTick_38 ?_
        refine X_iload_n C 1 dX8_oneTick_41 rfl rfl ?_
        refine X_iald C sh_56 dX8_oneTick_42 hf (fun hf => ?_)
        refine X_icmp_le (tgt := 69) C dX8_oneTick_43 (by decide) hf (fun hf => ?_) (fun hf => ?_)
        · refine X_loc (L' := [(0, .ref 36), (1, .int v1)]) [0, 1] rfl ?_
          exact w_X8_oneTick_69 C Rr hK2 _ _ hf
        · refine X_goto (tgt := 59) C dX8_oneTick_46 (by decide) ?_
          refine X_loc (L' := [(0, .ref 36), (1, .int v1)]) [0, 1] rfl ?_
          exact w_X8_oneTick_59 C Rr hK2 _ _ hf
def b_X8_oneTick_2 (N : Nat) : Nat → Sg → Int32 → Option (Sg)
  | 0, _, _ => none
  | j + 1, s, v1 => c_X8_oneTick_2 N (b_X8_oneTick_2 N j) s v1
theorem h_X8_oneTick_2 {X : Ctx} {N : Nat} {o : Sg} (C : Cx NM X cX8_oneTick 5 RX8 (ws_X8_oneTick) none rm_X8_oneTick) (Rr : Rx NM X 0 0 none SH o) : ∀ (j : Nat) (s : Sg) (v1 : Int32), b_X8_oneTick_2 N j s v1 = some o → XW NM X 5 0 0 SH s 2 [(0, .ref 36), (1, .int v1)] [] := by
  intro j
  induction j with
  | zero => intro s v1 hf; cases (show none = some o from hf)
  | succ j ih => intro s v1 hf; exact w_X8_oneTick_2 C Rr ih s v1 hf
def c_X8_oneTick_0 (N : Nat) (s : Sg) : Option (Sg) :=
b_X8_oneTick_2 N N s ((0:Int32))
set_option maxHeartbeats 4000000 in
set_option maxRecDepth 100000 in
theorem w_X8_oneTick_0 {X : Ctx} {N : Nat} {o : Sg} (C : Cx NM X cX8_oneTick 5 RX8 (ws_X8_oneTick) none rm_X8_oneTick) (Rr : Rx NM X 0 0 none SH o) (s : Sg) (hf : c_X8_oneTick_0 N s = some o) : XW NM X 5 0 0 SH s 0 [(0, .ref 36)] [] := by
  unfold c_X8_oneTick_0 at hf
  refine X_iconst (v := (0:Int32)) C dX8_oneTick_0 (by decide) ?_
  refine X_istore_n (L' := [(0, .ref 36), (1, .int ((0:Int32)))]) C [1, 0] dX8_oneTick_1 rfl (by decide) rfl ?_
  exact h_X8_oneTick_2 C Rr _ _ _ hf
def f_X8_oneTick (N : Nat) (s : Sg) : Option (Sg) := c_X8_oneTick_0 N s
theorem k_X8_oneTick {N : Nat} (s : Sg) (o : Sg) (hf : f_X8_oneTick N s = some o) : Ctr NM yX8_oneTick (ws_X8_oneTick) rm_X8_oneTick SH s [.ref 36] none o :=
  Ctr.of (by decide) rfl (Nat.le_of_ble_eq_true rfl) (fun X C Rr => by show XW NM X 5 0 0 SH s 0 [(0, .ref 36)] []; exact w_X8_oneTick_0 C Rr s hf)
abbrev ws_X8_tick : List Cond := Cond.code yX8_tick cX8_tick 3 (some .int) :: AW
abbrev rm_X8_tick : Room := { frames := 3, cells := 0, slots := 0, locals := 66 }
def c_X8_tick_40 (N : Nat) (K40 : Sg → Int32 → Int32 → Option (Int32 × Sg)) (s : Sg) (v1 : Int32) (v2 : Int32) : Option (Int32 × Sg) :=
if v1 ≤ v2 then
 some (v2, s)
 else
 if (s 36 23) = 0 then
 bdv (f_X8_oneTick N s) (fun s1 => K40 s1 v1 (v2 + (1:Int32)))
 else
 some (v2, s)
set_option maxHeartbeats 4000000 in
set_option maxRecDepth 100000 in
theorem w_X8_tick_40 {X : Ctx} {N : Nat} {o : Int32 × Sg} (C : Cx NM X cX8_tick 3 RX8 (ws_X8_tick) (some .int) rm_X8_tick) (Rr : Rx NM X 0 0 (some (.int o.1)) SH o.2) {K40 : Sg → Int32 → Int32 → Option (Int32 × Sg)} (hK40 : ∀ (s : Sg) (v1 : Int32) (v2 : Int32), K40 s v1 v2 = some o → XW NM X 3 0 0 SH s 40 [(0, .ref 36), (1, .int v1), (2, .int v2)] []) (s : Sg) (v1 : Int32) (v2 : Int32) (hf : c_X8_tick_40 N K40 s v1 v2 = some o) : XW NM X 3 0 0 SH s 40 [(0, .ref 36), (1, .int v1), (2, .int v2)] [] := by
  unfold c_X8_tick_40 at hf
  refine X_iload_n C 2 dX8_tick_40 rfl rfl ?_
  refine X_iload_n C 1 dX8_tick_41 rfl rfl ?_
  refine X_icmp_ge (tgt := 62) C dX8_tick_42 (by decide) hf (fun hf => ?_) (fun hf => ?_)
  · refine X_iload_n C 2 dX8_tick_62 rfl rfl ?_
    exact X_iret C dX8_tick_63 hf Rr
  · refine X_aload_n C 0 dX8_tick_45 rfl rfl ?_
    refine X_geti C 23 sh_36 nc_8 inM_8 (by decide) (mc wd_113) rfl dX8_tick_46 ?_
    refine X_if_ne (tgt := 62) C dX8_tick_49 (by decide) hf (fun hf => ?_) (fun hf => ?_)
    · refine X_iload_n C 2 dX8_tick_62 rfl rfl ?_
      exact X_iret C dX8_tick_63 hf Rr
    · refine X_aload_n C 0 dX8_tick_52 rfl rfl ?_
      refine X_callVv (As := []) (rest := []) C aw_ok mcs lk_X8_186 sh_36 nc_8 (by decide) rfl rfl (Nat.le_of_ble_eq_true rfl) dX8_tick_53 hf (fun s h => k_X8_oneTick _ s h) (fun s1 hf => ?_)
      refine X_iinc (v := (1:Int32)) (L' := [(0, .ref 36), (1, .int v1), (2, .int (v2 + (1:Int32)))]) C 2 [1, 2, 0] dX8_tick_56 rfl (by decide) (by decide) rfl ?_
      refine X_goto (tgt := 40) C dX8_tick_59 (by decide) ?_
      exact hK40 _ _ _ hf
def b_X8_tick_40 (N : Nat) : Nat → Sg → Int32 → Int32 → Option (Int32 × Sg)
  | 0, _, _, _ => none
  | j + 1, s, v1, v2 => c_X8_tick_40 N (b_X8_tick_40 N j) s v1 v2
theorem h_X8_tick_40 {X : Ctx} {N : Nat} {o : Int32 × Sg} (C : Cx NM X cX8_tick 3 RX8 (ws_X8_tick) (some .int) rm_X8_tick) (Rr : Rx NM X 0 0 (some (.int o.1)) SH o.2) : ∀ (j : Nat) (s : Sg) (v1 : Int32) (v2 : Int32), b_X8_tick_40 N j s v1 v2 = some o → XW NM X 3 0 0 SH s 40 [(0, .ref 36), (1, .int v1), (2, .int v2)] [] := by
  intro j
  induction j with
  | zero => intro s v1 v2 hf; cases (show none = some o from hf)
  | succ j ih => intro s v1 v2 hf; exact w_X8_tick_40 C Rr ih s v1 v2 hf
def c_X8_tick_0 (N : Nat) (s : Sg) (v1 : Int32) : Option (Int32 × Sg) :=
bd (f_X8_in s v1 ((1:Int32)) ((50:Int32))) (fun r2 s1 => if r2 = 0 then
 some ((-2:Int32), s1)
 else
 if (s1 36 23) = 0 then
 if ((s1 36 18) + v1) ≤ ((5000:Int32)) then
 b_X8_tick_40 N N s1 v1 ((0:Int32))
 else
 some ((-4:Int32), s1)
 else
 some ((-3:Int32), s1))
set_option maxHeartbeats 4000000 in
set_option maxRecDepth 100000 in
theorem w_X8_tick_0 {X : Ctx} {N : Nat} {o : Int32 × Sg} (C : Cx NM X cX8_tick 3 RX8 (ws_X8_tick) (some .int) rm_X8_tick) (Rr : Rx NM X 0 0 (some (.int o.1)) SH o.2) (s : Sg) (v1 : Int32) (hf : c_X8_tick_0 N s v1 = some o) : XW NM X 3 0 0 SH s 0 [(0, .ref 36), (1, .int v1)] [] := by
  unfold c_X8_tick_0 at hf
  refine X_iload_n C 1 dX8_tick_0 rfl rfl ?_
  refine X_iconst (v := (1:Int32)) C dX8_tick_1 (by decide) ?_
  refine X_bipush (v := (50:Int32)) C dX8_tick_2 (by decide) ?_
  refine X_callSi (As := [.int v1, .int ((1:Int32)), .int ((50:Int32))]) (rest := []) C aw_ok mcs lk_X8_123 (by decide) rfl rfl (Nat.le_of_ble_eq_true rfl) dX8_tick_4 hf (fun r s h => k_X8_in _ _ _ _ (r, s) h) (fun r2 s1 hf => ?_)
  refine X_if_ne (tgt := 13) C dX8_tick_7 (by decide) hf (fun hf => ?_) (fun hf => ?_)
  · refine X_aload_n C 0 dX8_tick_13 rfl rfl ?_
    refine X_geti C 23 sh_36 nc_8 inM_8 (by decide) (mc wd_113) rfl dX8_tick_14 ?_
    refine X_if_eq (tgt := 23) C dX8_tick_17 (by decide) hf (fun hf => ?_) (fun hf => ?_)
    · refine X_aload_n C 0 dX8_tick_23 rfl rfl ?_
      refine X_geti C 18 sh_36 nc_8 inM_8 (by decide) (mc wd_102) rfl dX8_tick_24 ?_
      refine X_iload_n C 1 dX8_tick_27 rfl rfl ?_
      refine X_iadd C dX8_tick_28 ?_
      refine X_sipush (v := (5000:Int32)) C dX8_tick_29 (by decide) ?_
      refine X_icmp_le (tgt := 38) C dX8_tick_32 (by decide) hf (fun hf => ?_) (fun hf => ?_)
      · refine X_iconst (v := (0:Int32)) C dX8_tick_38 (by decide) ?_
        refine X_istore_n (L' := [(0, .ref 36), (1, .int v1), (2, .int ((0:Int32)))]) C [1, 2, 0] dX8_tick_39 rfl (by decide) rfl ?_
        exact h_X8_tick_40 C Rr _ _ _ _ hf
      · refine X_bipush (v := (-4:Int32)) C dX8_tick_35 (by decide) ?_
        exact X_iret C dX8_tick_37 hf Rr
    · refine X_bipush (v := (-3:Int32)) C dX8_tick_20 (by decide) ?_
      exact X_iret C dX8_tick_22 hf Rr
  · refine X_bipush (v := (-2:Int32)) C dX8_tick_10 (by decide) ?_
    exact X_iret C dX8_tick_12 hf Rr
def f_X8_tick (N : Nat) (s : Sg) (v1 : Int32) : Option (Int32 × Sg) := c_X8_tick_0 N s v1
theorem k_X8_tick {N : Nat} (s : Sg) (v1 : Int32) (o : Int32 × Sg) (hf : f_X8_tick N s v1 = some o) : Ctr NM yX8_tick (ws_X8_tick) rm_X8_tick SH s [.ref 36, .int v1] (some (.int o.1)) o.2 :=
  Ctr.of (by decide) rfl (Nat.le_of_ble_eq_true rfl) (fun X C Rr => by show XW NM X 3 0 0 SH s 0 [(0, .ref 36), (1, .int v1)] []; exact w_X8_tick_0 C Rr s v1 hf)
abbrev ws_X8_about : List Cond := Cond.code yX8_about cX8_about 2 (some .int) :: AW
abbrev rm_X8_about : Room := { frames := 0, cells := 0, slots := 0, locals := 0 }
def c_X8_about_0 (s : Sg) (v1 : Int32) : Option (Int32 × Sg) :=
if v1 = (0:Int32) then
 some (s 36 14, s)
 else if v1 = (1:Int32) then
 some (s 36 15, s)
 else if v1 = (2:Int32) then
 some (s 36 16, s)
 else if v1 = (3:Int32) then
 some (s 36 17, s)
 else if v1 = (4:Int32) then
 some (s 36 18, s)
 else if v1 = (5:Int32) then
 some ((s 36 2) - (s 36 3), s)
 else if v1 = (6:Int32) then
 some (s 36 19, s)
 else if v1 = (7:Int32) then
 some (s 36 20, s)
 else if v1 = (8:Int32) then
 some (s 36 21, s)
 else if v1 = (9:Int32) then
 if (s 36 23) = 0 then
 some ((0:Int32), s)
 else
 some ((1:Int32), s)
 else if v1 = (10:Int32) then
 some (s 36 22, s)
 else if v1 = (11:Int32) then
 some (s 36 11, s)
 else some ((-2:Int32), s)
set_option maxHeartbeats 4000000 in
set_option maxRecDepth 100000 in
theorem w_X8_about_0 {X : Ctx} {o : Int32 × Sg} (C : Cx NM X cX8_about 2 RX8 (ws_X8_about) (some .int) rm_X8_about) (Rr : Rx NM X 0 0 (some (.int o.1)) SH o.2) (s : Sg) (v1 : Int32) (hf : c_X8_about_0 s v1 = some o) : XW NM X 2 0 0 SH s 0 [(0, .ref 36), (1, .int v1)] [] := by
  unfold c_X8_about_0 at hf
  refine X_iload_n C 1 dX8_about_0 rfl rfl ?_
  refine X_sw (k0 := (0:Int32)) hf (fun e hf => ?_) (fun n0 hf => ?_)
  · refine X_tin (tgt := 64) C dX8_about_1 (by rw [e]; decide) (by rw [e]; decide) (by rw [e]; rfl) (by decide) ?_
    refine X_aload_n C 0 dX8_about_64 rfl rfl ?_
    refine X_geti C 14 sh_36 nc_8 inM_8 (by decide) (mc wd_104) rfl dX8_about_65 ?_
    exact X_iret C dX8_about_68 hf Rr
  refine X_sw (k0 := (1:Int32)) hf (fun e hf => ?_) (fun n1 hf => ?_)
  · refine X_tin (tgt := 69) C dX8_about_1 (by rw [e]; decide) (by rw [e]; decide) (by rw [e]; rfl) (by decide) ?_
    refine X_aload_n C 0 dX8_about_69 rfl rfl ?_
    refine X_geti C 15 sh_36 nc_8 inM_8 (by decide) (mc wd_92) rfl dX8_about_70 ?_
    exact X_iret C dX8_about_73 hf Rr
  refine X_sw (k0 := (2:Int32)) hf (fun e hf => ?_) (fun n2 hf => ?_)
  · refine X_tin (tgt := 74) C dX8_about_1 (by rw [e]; decide) (by rw [e]; decide) (by rw [e]; rfl) (by decide) ?_
    refine X_aload_n C 0 dX8_about_74 rfl rfl ?_
    refine X_geti C 16 sh_36 nc_8 inM_8 (by decide) (mc wd_105) rfl dX8_about_75 ?_
    exact X_iret C dX8_about_78 hf Rr
  refine X_sw (k0 := (3:Int32)) hf (fun e hf => ?_) (fun n3 hf => ?_)
  · refine X_tin (tgt := 79) C dX8_about_1 (by rw [e]; decide) (by rw [e]; decide) (by rw [e]; rfl) (by decide) ?_
    refine X_aload_n C 0 dX8_about_79 rfl rfl ?_
    refine X_geti C 17 sh_36 nc_8 inM_8 (by decide) (mc wd_112) rfl dX8_about_80 ?_
    exact X_iret C dX8_about_83 hf Rr
  refine X_sw (k0 := (4:Int32)) hf (fun e hf => ?_) (fun n4 hf => ?_)
  · refine X_tin (tgt := 84) C dX8_about_1 (by rw [e]; decide) (by rw [e]; decide) (by rw [e]; rfl) (by decide) ?_
    refine X_aload_n C 0 dX8_about_84 rfl rfl ?_
    refine X_geti C 18 sh_36 nc_8 inM_8 (by decide) (mc wd_102) rfl dX8_about_85 ?_
    exact X_iret C dX8_about_88 hf Rr
  refine X_sw (k0 := (5:Int32)) hf (fun e hf => ?_) (fun n5 hf => ?_)
  · refine X_tin (tgt := 89) C dX8_about_1 (by rw [e]; decide) (by rw [e]; decide) (by rw [e]; rfl) (by decide) ?_
    refine X_aload_n C 0 dX8_about_89 rfl rfl ?_
    refine X_geti C 2 sh_36 nc_8 inM_8 (by decide) (mc wd_79) rfl dX8_about_90 ?_
    refine X_aload_n C 0 dX8_about_93 rfl rfl ?_
    refine X_geti C 3 sh_36 nc_8 inM_8 (by decide) (mc wd_80) rfl dX8_about_94 ?_
    refine X_isub C dX8_about_97 ?_
    exact X_iret C dX8_about_98 hf Rr
  refine X_sw (k0 := (6:Int32)) hf (fun e hf => ?_) (fun n6 hf => ?_)
  · refine X_tin (tgt := 99) C dX8_about_1 (by rw [e]; decide) (by rw [e]; decide) (by rw [e]; rfl) (by decide) ?_
    refine X_aload_n C 0 dX8_about_99 rfl rfl ?_
    refine X_geti C 19 sh_36 nc_8 inM_8 (by decide) (mc wd_111) rfl dX8_about_100 ?_
    exact X_iret C dX8_about_103 hf Rr
  refine X_sw (k0 := (7:Int32)) hf (fun e hf => ?_) (fun n7 hf => ?_)
  · refine X_tin (tgt := 104) C dX8_about_1 (by rw [e]; decide) (by rw [e]; decide) (by rw [e]; rfl) (by decide) ?_
    refine X_aload_n C 0 dX8_about_104 rfl rfl ?_
    refine X_geti C 20 sh_36 nc_8 inM_8 (by decide) (mc wd_106) rfl dX8_about_105 ?_
    exact X_iret C dX8_about_108 hf Rr
  refine X_sw (k0 := (8:Int32)) hf (fun e hf => ?_) (fun n8 hf => ?_)
  · refine X_tin (tgt := 109) C dX8_about_1 (by rw [e]; decide) (by rw [e]; decide) (by rw [e]; rfl) (by decide) ?_
    refine X_aload_n C 0 dX8_about_109 rfl rfl ?_
    refine X_geti C 21 sh_36 nc_8 inM_8 (by decide) (mc wd_114) rfl dX8_about_110 ?_
    exact X_iret C dX8_about_113 hf Rr
  refine X_sw (k0 := (9:Int32)) hf (fun e hf => ?_) (fun n9 hf => ?_)
  · refine X_tin (tgt := 114) C dX8_about_1 (by rw [e]; decide) (by rw [e]; decide) (by rw [e]; rfl) (by decide) ?_
    refine X_aload_n C 0 dX8_about_114 rfl rfl ?_
    refine X_geti C 23 sh_36 nc_8 inM_8 (by decide) (mc wd_113) rfl dX8_about_115 ?_
    refine X_if_eq (tgt := 125) C dX8_about_118 (by decide) hf (fun hf => ?_) (fun hf => ?_)
    · refine X_iconst (v := (0:Int32)) C dX8_about_125 (by decide) ?_
      exact X_iret C dX8_about_126 hf Rr
    · refine X_iconst (v := (1:Int32)) C dX8_about_121 (by decide) ?_
      refine X_goto (tgt := 126) C dX8_about_122 (by decide) ?_
      exact X_iret C dX8_about_126 hf Rr
  refine X_sw (k0 := (10:Int32)) hf (fun e hf => ?_) (fun n10 hf => ?_)
  · refine X_tin (tgt := 127) C dX8_about_1 (by rw [e]; decide) (by rw [e]; decide) (by rw [e]; rfl) (by decide) ?_
    refine X_aload_n C 0 dX8_about_127 rfl rfl ?_
    refine X_geti C 22 sh_36 nc_8 inM_8 (by decide) (mc wd_107) rfl dX8_about_128 ?_
    exact X_iret C dX8_about_131 hf Rr
  refine X_sw (k0 := (11:Int32)) hf (fun e hf => ?_) (fun n11 hf => ?_)
  · refine X_tin (tgt := 132) C dX8_about_1 (by rw [e]; decide) (by rw [e]; decide) (by rw [e]; rfl) (by decide) ?_
    refine X_aload_n C 0 dX8_about_132 rfl rfl ?_
    refine X_geti C 11 sh_36 nc_8 inM_8 (by decide) (mc wd_88) rfl dX8_about_133 ?_
    exact X_iret C dX8_about_136 hf Rr
  refine X_tout (tgt := 137) C dX8_about_1 (by have := lv_neT n0 (show (0:Int32).toInt = 0 from by decide); have := lv_neT n1 (show (1:Int32).toInt = 1 from by decide); have := lv_neT n2 (show (2:Int32).toInt = 2 from by decide); have := lv_neT n3 (show (3:Int32).toInt = 3 from by decide); have := lv_neT n4 (show (4:Int32).toInt = 4 from by decide); have := lv_neT n5 (show (5:Int32).toInt = 5 from by decide); have := lv_neT n6 (show (6:Int32).toInt = 6 from by decide); have := lv_neT n7 (show (7:Int32).toInt = 7 from by decide); have := lv_neT n8 (show (8:Int32).toInt = 8 from by decide); have := lv_neT n9 (show (9:Int32).toInt = 9 from by decide); have := lv_neT n10 (show (10:Int32).toInt = 10 from by decide); have := lv_neT n11 (show (11:Int32).toInt = 11 from by decide); omega) (by decide) ?_
  refine X_bipush (v := (-2:Int32)) C dX8_about_137 (by decide) ?_
  exact X_iret C dX8_about_139 hf Rr
def f_X8_about (s : Sg) (v1 : Int32) : Option (Int32 × Sg) := c_X8_about_0 s v1
theorem k_X8_about (s : Sg) (v1 : Int32) (o : Int32 × Sg) (hf : f_X8_about s v1 = some o) : Ctr NM yX8_about (ws_X8_about) rm_X8_about SH s [.ref 36, .int v1] (some (.int o.1)) o.2 :=
  Ctr.of (by decide) rfl (Nat.le_of_ble_eq_true rfl) (fun X C Rr => by show XW NM X 2 0 0 SH s 0 [(0, .ref 36), (1, .int v1)] []; exact w_X8_about_0 C Rr s v1 hf)
abbrev ws_X8_pig : List Cond := Cond.code yX8_pig cX8_pig 3 (some .int) :: AW
abbrev rm_X8_pig : Room := { frames := 1, cells := 0, slots := 0, locals := 22 }
def c_X8_pig_0 (s : Sg) (v1 : Int32) (v2 : Int32) : Option (Int32 × Sg) :=
if v1 < 0 then
 some ((-2:Int32), s)
 else
 bd (f_X8_in s v2 ((0:Int32)) ((5:Int32))) (fun r2 s1 => if r2 = 0 then
 some ((-2:Int32), s1)
 else
 if v1 < (s1 36 27) then
 if v2 = (0:Int32) then
 gd (vi v1 60) (some (s1 46 v1.toNatClampNeg, s1))
 else if v2 = (1:Int32) then
 gd (vi v1 60) (some (s1 47 v1.toNatClampNeg, s1))
 else if v2 = (2:Int32) then
 gd (vi v1 60) (some (s1 48 v1.toNatClampNeg, s1))
 else if v2 = (3:Int32) then
 gd (vi v1 60) (some (s1 49 v1.toNatClampNeg, s1))
 else if v2 = (4:Int32) then
 gd (vi v1 60) (some (s1 50 v1.toNatClampNeg, s1))
 else gd (vi v1 60) (some (s1 51 v1.toNatClampNeg, s1))
 else
 some ((-1:Int32), s1))
set_option maxHeartbeats 4000000 in
set_option maxRecDepth 100000 in
theorem w_X8_pig_0 {X : Ctx} {o : Int32 × Sg} (C : Cx NM X cX8_pig 3 RX8 (ws_X8_pig) (some .int) rm_X8_pig) (Rr : Rx NM X 0 0 (some (.int o.1)) SH o.2) (s : Sg) (v1 : Int32) (v2 : Int32) (hf : c_X8_pig_0 s v1 v2 = some o) : XW NM X 3 0 0 SH s 0 [(0, .ref 36), (1, .int v1), (2, .int v2)] [] := by
  unfold c_X8_pig_0 at hf
  refine X_iload_n C 1 dX8_pig_0 rfl rfl ?_
  refine X_if_lt (tgt := 13) C dX8_pig_1 (by decide) hf (fun hf => ?_) (fun hf => ?_)
  · refine X_bipush (v := (-2:Int32)) C dX8_pig_13 (by decide) ?_
    exact X_iret C dX8_pig_15 hf Rr
  · refine X_iload_n C 2 dX8_pig_4 rfl rfl ?_
    refine X_iconst (v := (0:Int32)) C dX8_pig_5 (by decide) ?_
    refine X_iconst (v := (5:Int32)) C dX8_pig_6 (by decide) ?_
    refine X_callSi (As := [.int v2, .int ((0:Int32)), .int ((5:Int32))]) (rest := []) C aw_ok mcs lk_X8_123 (by decide) rfl rfl (Nat.le_of_ble_eq_true rfl) dX8_pig_7 hf (fun r s h => k_X8_in _ _ _ _ (r, s) h) (fun r2 s1 hf => ?_)
    refine X_if_ne (tgt := 16) C dX8_pig_10 (by decide) hf (fun hf => ?_) (fun hf => ?_)
    · refine X_iload_n C 1 dX8_pig_16 rfl rfl ?_
      refine X_aload_n C 0 dX8_pig_17 rfl rfl ?_
      refine X_geti C 27 sh_36 nc_8 inM_8 (by decide) (mc wd_93) rfl dX8_pig_18 ?_
      refine X_icmp_lt (tgt := 26) C dX8_pig_21 (by decide) hf (fun hf => ?_) (fun hf => ?_)
      · refine X_iload_n C 2 dX8_pig_26 rfl rfl ?_
        refine X_sw (k0 := (0:Int32)) hf (fun e hf => ?_) (fun n0 hf => ?_)
        · refine X_tin (tgt := 60) C dX8_pig_27 (by rw [e]; decide) (by rw [e]; decide) (by rw [e]; rfl) (by decide) ?_
          refine X_aload_n C 0 dX8_pig_60 rfl rfl ?_
          refine X_getr C 28 sh_36 nc_8 inM_8 (by decide) (mc wd_94) rfl dX8_pig_61 ?_
          refine X_iload_n C 1 dX8_pig_64 rfl rfl ?_
          refine X_iald C sh_46 dX8_pig_65 hf (fun hf => ?_)
          exact X_iret C dX8_pig_66 hf Rr
        refine X_sw (k0 := (1:Int32)) hf (fun e hf => ?_) (fun n1 hf => ?_)
        · refine X_tin (tgt := 67) C dX8_pig_27 (by rw [e]; decide) (by rw [e]; decide) (by rw [e]; rfl) (by decide) ?_
          refine X_aload_n C 0 dX8_pig_67 rfl rfl ?_
          refine X_getr C 29 sh_36 nc_8 inM_8 (by decide) (mc wd_95) rfl dX8_pig_68 ?_
          refine X_iload_n C 1 dX8_pig_71 rfl rfl ?_
          refine X_iald C sh_47 dX8_pig_72 hf (fun hf => ?_)
          exact X_iret C dX8_pig_73 hf Rr
        refine X_sw (k0 := (2:Int32)) hf (fun e hf => ?_) (fun n2 hf => ?_)
        · refine X_tin (tgt := 74) C dX8_pig_27 (by rw [e]; decide) (by rw [e]; decide) (by rw [e]; rfl) (by decide) ?_
          refine X_aload_n C 0 dX8_pig_74 rfl rfl ?_
          refine X_getr C 30 sh_36 nc_8 inM_8 (by decide) (mc wd_97) rfl dX8_pig_75 ?_
          refine X_iload_n C 1 dX8_pig_78 rfl rfl ?_
          refine X_iald C sh_48 dX8_pig_79 hf (fun hf => ?_)
          exact X_iret C dX8_pig_80 hf Rr
        refine X_sw (k0 := (3:Int32)) hf (fun e hf => ?_) (fun n3 hf => ?_)
        · refine X_tin (tgt := 81) C dX8_pig_27 (by rw [e]; decide) (by rw [e]; decide) (by rw [e]; rfl) (by decide) ?_
          refine X_aload_n C 0 dX8_pig_81 rfl rfl ?_
          refine X_getr C 31 sh_36 nc_8 inM_8 (by decide) (mc wd_99) rfl dX8_pig_82 ?_
          refine X_iload_n C 1 dX8_pig_85 rfl rfl ?_
          refine X_iald C sh_49 dX8_pig_86 hf (fun hf => ?_)
          exact X_iret C dX8_pig_87 hf Rr
        refine X_sw (k0 := (4:Int32)) hf (fun e hf => ?_) (fun n4 hf => ?_)
        · refine X_tin (tgt := 88) C dX8_pig_27 (by rw [e]; decide) (by rw [e]; decide) (by rw [e]; rfl) (by decide) ?_
          refine X_aload_n C 0 dX8_pig_88 rfl rfl ?_
          refine X_getr C 32 sh_36 nc_8 inM_8 (by decide) (mc wd_101) rfl dX8_pig_89 ?_
          refine X_iload_n C 1 dX8_pig_92 rfl rfl ?_
          refine X_iald C sh_50 dX8_pig_93 hf (fun hf => ?_)
          exact X_iret C dX8_pig_94 hf Rr
        refine X_tout (tgt := 95) C dX8_pig_27 (by have := lv_neT n0 (show (0:Int32).toInt = 0 from by decide); have := lv_neT n1 (show (1:Int32).toInt = 1 from by decide); have := lv_neT n2 (show (2:Int32).toInt = 2 from by decide); have := lv_neT n3 (show (3:Int32).toInt = 3 from by decide); have := lv_neT n4 (show (4:Int32).toInt = 4 from by decide); omega) (by decide) ?_
        refine X_aload_n C 0 dX8_pig_95 rfl rfl ?_
        refine X_getr C 33 sh_36 nc_8 inM_8 (by decide) (mc wd_103) rfl dX8_pig_96 ?_
        refine X_iload_n C 1 dX8_pig_99 rfl rfl ?_
        refine X_iald C sh_51 dX8_pig_100 hf (fun hf => ?_)
        exact X_iret C dX8_pig_101 hf Rr
      · refine X_iconst (v := (-1:Int32)) C dX8_pig_24 (by decide) ?_
        exact X_iret C dX8_pig_25 hf Rr
    · refine X_bipush (v := (-2:Int32)) C dX8_pig_13 (by decide) ?_
      exact X_iret C dX8_pig_15 hf Rr
def f_X8_pig (s : Sg) (v1 : Int32) (v2 : Int32) : Option (Int32 × Sg) := c_X8_pig_0 s v1 v2
theorem k_X8_pig (s : Sg) (v1 : Int32) (v2 : Int32) (o : Int32 × Sg) (hf : f_X8_pig s v1 v2 = some o) : Ctr NM yX8_pig (ws_X8_pig) rm_X8_pig SH s [.ref 36, .int v1, .int v2] (some (.int o.1)) o.2 :=
  Ctr.of (by decide) rfl (Nat.le_of_ble_eq_true rfl) (fun X C Rr => by show XW NM X 3 0 0 SH s 0 [(0, .ref 36), (1, .int v1), (2, .int v2)] []; exact w_X8_pig_0 C Rr s v1 v2 hf)
abbrev ws_X8_sign : List Cond := Cond.code yX8_sign cX8_sign 2 (some .int) :: AW
abbrev rm_X8_sign : Room := { frames := 1, cells := 0, slots := 0, locals := 22 }
def c_X8_sign_0 (s : Sg) (v1 : Int32) : Option (Int32 × Sg) :=
bd (f_X8_in s v1 ((0:Int32)) ((2:Int32))) (fun r2 s1 => if r2 = 0 then
 some ((-2:Int32), s1)
 else
 gd (vi v1 3) (some (s1 52 v1.toNatClampNeg, s1)))
set_option maxHeartbeats 4000000 in
set_option maxRecDepth 100000 in
theorem w_X8_sign_0 {X : Ctx} {o : Int32 × Sg} (C : Cx NM X cX8_sign 2 RX8 (ws_X8_sign) (some .int) rm_X8_sign) (Rr : Rx NM X 0 0 (some (.int o.1)) SH o.2) (s : Sg) (v1 : Int32) (hf : c_X8_sign_0 s v1 = some o) : XW NM X 2 0 0 SH s 0 [(0, .ref 36), (1, .int v1)] [] := by
  unfold c_X8_sign_0 at hf
  refine X_iload_n C 1 dX8_sign_0 rfl rfl ?_
  refine X_iconst (v := (0:Int32)) C dX8_sign_1 (by decide) ?_
  refine X_iconst (v := (2:Int32)) C dX8_sign_2 (by decide) ?_
  refine X_callSi (As := [.int v1, .int ((0:Int32)), .int ((2:Int32))]) (rest := []) C aw_ok mcs lk_X8_123 (by decide) rfl rfl (Nat.le_of_ble_eq_true rfl) dX8_sign_3 hf (fun r s h => k_X8_in _ _ _ _ (r, s) h) (fun r2 s1 hf => ?_)
  refine X_if_eq (tgt := 18) C dX8_sign_6 (by decide) hf (fun hf => ?_) (fun hf => ?_)
  · refine X_bipush (v := (-2:Int32)) C dX8_sign_18 (by decide) ?_
    exact X_iret C dX8_sign_20 hf Rr
  · refine X_aload_n C 0 dX8_sign_9 rfl rfl ?_
    refine X_getr C 34 sh_36 nc_8 inM_8 (by decide) (mc wd_108) rfl dX8_sign_10 ?_
    refine X_iload_n C 1 dX8_sign_13 rfl rfl ?_
    refine X_iald C sh_52 dX8_sign_14 hf (fun hf => ?_)
    refine X_goto (tgt := 20) C dX8_sign_15 (by decide) ?_
    exact X_iret C dX8_sign_20 hf Rr
def f_X8_sign (s : Sg) (v1 : Int32) : Option (Int32 × Sg) := c_X8_sign_0 s v1
theorem k_X8_sign (s : Sg) (v1 : Int32) (o : Int32 × Sg) (hf : f_X8_sign s v1 = some o) : Ctr NM yX8_sign (ws_X8_sign) rm_X8_sign SH s [.ref 36, .int v1] (some (.int o.1)) o.2 :=
  Ctr.of (by decide) rfl (Nat.le_of_ble_eq_true rfl) (fun X C Rr => by show XW NM X 2 0 0 SH s 0 [(0, .ref 36), (1, .int v1)] []; exact w_X8_sign_0 C Rr s v1 hf)
abbrev ws_X8_lose : List Cond := Cond.code yX8_lose cX8_lose 3 (some .int) :: AW
abbrev rm_X8_lose : Room := { frames := 1, cells := 0, slots := 0, locals := 22 }
def c_X8_lose_0 (s : Sg) (v1 : Int32) (v2 : Int32) : Option (Int32 × Sg) :=
bd (f_X8_in s v1 ((0:Int32)) ((2:Int32))) (fun r2 s1 => if r2 = 0 then
 some ((-2:Int32), s1)
 else
 bd (f_X8_in s1 v2 ((0:Int32)) ((50:Int32))) (fun r4 s3 => if r4 = 0 then
 some ((-2:Int32), s3)
 else
 gd (vi v1 3) (lt_ (sgu s3 53 v1.toNatClampNeg v2) (fun s5 => some ((1:Int32), s5)))))
set_option maxHeartbeats 4000000 in
set_option maxRecDepth 100000 in
theorem w_X8_lose_0 {X : Ctx} {o : Int32 × Sg} (C : Cx NM X cX8_lose 3 RX8 (ws_X8_lose) (some .int) rm_X8_lose) (Rr : Rx NM X 0 0 (some (.int o.1)) SH o.2) (s : Sg) (v1 : Int32) (v2 : Int32) (hf : c_X8_lose_0 s v1 v2 = some o) : XW NM X 3 0 0 SH s 0 [(0, .ref 36), (1, .int v1), (2, .int v2)] [] := by
  unfold c_X8_lose_0 at hf
  refine X_iload_n C 1 dX8_lose_0 rfl rfl ?_
  refine X_iconst (v := (0:Int32)) C dX8_lose_1 (by decide) ?_
  refine X_iconst (v := (2:Int32)) C dX8_lose_2 (by decide) ?_
  refine X_callSi (As := [.int v1, .int ((0:Int32)), .int ((2:Int32))]) (rest := []) C aw_ok mcs lk_X8_123 (by decide) rfl rfl (Nat.le_of_ble_eq_true rfl) dX8_lose_3 hf (fun r s h => k_X8_in _ _ _ _ (r, s) h) (fun r2 s1 hf => ?_)
  refine X_if_eq (tgt := 19) C dX8_lose_6 (by decide) hf (fun hf => ?_) (fun hf => ?_)
  · refine X_bipush (v := (-2:Int32)) C dX8_lose_19 (by decide) ?_
    exact X_iret C dX8_lose_21 hf Rr
  · refine X_iload_n C 2 dX8_lose_9 rfl rfl ?_
    refine X_iconst (v := (0:Int32)) C dX8_lose_10 (by decide) ?_
    refine X_bipush (v := (50:Int32)) C dX8_lose_11 (by decide) ?_
    refine X_callSi (As := [.int v2, .int ((0:Int32)), .int ((50:Int32))]) (rest := []) C aw_ok mcs lk_X8_123 (by decide) rfl rfl (Nat.le_of_ble_eq_true rfl) dX8_lose_13 hf (fun r s h => k_X8_in _ _ _ _ (r, s) h) (fun r4 s3 hf => ?_)
    refine X_if_ne (tgt := 22) C dX8_lose_16 (by decide) hf (fun hf => ?_) (fun hf => ?_)
    · refine X_aload_n C 0 dX8_lose_22 rfl rfl ?_
      refine X_getr C 35 sh_36 nc_8 inM_8 (by decide) (mc wd_109) rfl dX8_lose_23 ?_
      refine X_iload_n C 1 dX8_lose_26 rfl rfl ?_
      refine X_iload_n C 2 dX8_lose_27 rfl rfl ?_
      refine X_iast C sh_53 dX8_lose_28 hf (fun s5 hf => ?_)
      refine X_iconst (v := (1:Int32)) C dX8_lose_29 (by decide) ?_
      exact X_iret C dX8_lose_30 hf Rr
    · refine X_bipush (v := (-2:Int32)) C dX8_lose_19 (by decide) ?_
      exact X_iret C dX8_lose_21 hf Rr
def f_X8_lose (s : Sg) (v1 : Int32) (v2 : Int32) : Option (Int32 × Sg) := c_X8_lose_0 s v1 v2
theorem k_X8_lose (s : Sg) (v1 : Int32) (v2 : Int32) (o : Int32 × Sg) (hf : f_X8_lose s v1 v2 = some o) : Ctr NM yX8_lose (ws_X8_lose) rm_X8_lose SH s [.ref 36, .int v1, .int v2] (some (.int o.1)) o.2 :=
  Ctr.of (by decide) rfl (Nat.le_of_ble_eq_true rfl) (fun X C Rr => by show XW NM X 3 0 0 SH s 0 [(0, .ref 36), (1, .int v1), (2, .int v2)] []; exact w_X8_lose_0 C Rr s v1 v2 hf)
abbrev ws_X8_rule : List Cond := Cond.code yX8_rule cX8_rule 5 (some .int) :: AW
abbrev rm_X8_rule : Room := { frames := 1, cells := 0, slots := 0, locals := 22 }
def c_X8_rule_0 (s : Sg) (v1 : Int32) (v2 : Int32) (v3 : Int32) (v4 : Int32) : Option (Int32 × Sg) :=
bd (f_X8_in s v1 ((0:Int32)) ((2:Int32))) (fun r2 s1 => if r2 = 0 then
 some ((-2:Int32), s1)
 else
 bd (f_X8_in s1 v3 ((0:Int32)) ((1000:Int32))) (fun r4 s3 => if r4 = 0 then
 some ((-2:Int32), s3)
 else
 bd (f_X8_in s3 v4 ((0:Int32)) ((2:Int32))) (fun r6 s5 => if r6 = 0 then
 some ((-2:Int32), s5)
 else
 if (s5 36 36) = ((8:Int32)) then
 some ((-4:Int32), s5)
 else
 gd (vi (s5 36 36) 8) (lt_ (sgu s5 54 (s5 36 36).toNatClampNeg v1) (fun s7 => gd (vi (s7 36 36) 8) (lt_ (sgu s7 55 (s7 36 36).toNatClampNeg (vp_nar .boolean v2)) (fun s8 => gd (vi (s8 36 36) 8) (lt_ (sgu s8 56 (s8 36 36).toNatClampNeg v3) (fun s9 => gd (vi (s9 36 36) 8) (lt_ (sgu s9 57 (s9 36 36).toNatClampNeg v4) (fun s10 => lt_ (sgu s10 36 36 ((s10 36 36) + ((1:Int32)))) (fun s11 => some ((s11 36 36) - ((1:Int32)), s11)))))))))))))
set_option maxHeartbeats 4000000 in
set_option maxRecDepth 100000 in
theorem w_X8_rule_0 {X : Ctx} {o : Int32 × Sg} (C : Cx NM X cX8_rule 5 RX8 (ws_X8_rule) (some .int) rm_X8_rule) (Rr : Rx NM X 0 0 (some (.int o.1)) SH o.2) (s : Sg) (v1 : Int32) (v2 : Int32) (v3 : Int32) (v4 : Int32) (hf : c_X8_rule_0 s v1 v2 v3 v4 = some o) : XW NM X 5 0 0 SH s 0 [(0, .ref 36), (1, .int v1), (2, .int v2), (3, .int v3), (4, .int v4)] [] := by
  unfold c_X8_rule_0 at hf
  refine X_iload_n C 1 dX8_rule_0 rfl rfl ?_
  refine X_iconst (v := (0:Int32)) C dX8_rule_1 (by decide) ?_
  refine X_iconst (v := (2:Int32)) C dX8_rule_2 (by decide) ?_
  refine X_callSi (As := [.int v1, .int ((0:Int32)), .int ((2:Int32))]) (rest := []) C aw_ok mcs lk_X8_123 (by decide) rfl rfl (Nat.le_of_ble_eq_true rfl) dX8_rule_3 hf (fun r s h => k_X8_in _ _ _ _ (r, s) h) (fun r2 s1 hf => ?_)
  refine X_if_eq (tgt := 30) C dX8_rule_6 (by decide) hf (fun hf => ?_) (fun hf => ?_)
  · refine X_bipush (v := (-2:Int32)) C dX8_rule_30 (by decide) ?_
    exact X_iret C dX8_rule_32 hf Rr
  · refine X_iload_n C 3 dX8_rule_9 rfl rfl ?_
    refine X_iconst (v := (0:Int32)) C dX8_rule_10 (by decide) ?_
    refine X_sipush (v := (1000:Int32)) C dX8_rule_11 (by decide) ?_
    refine X_callSi (As := [.int v3, .int ((0:Int32)), .int ((1000:Int32))]) (rest := []) C aw_ok mcs lk_X8_123 (by decide) rfl rfl (Nat.le_of_ble_eq_true rfl) dX8_rule_14 hf (fun r s h => k_X8_in _ _ _ _ (r, s) h) (fun r4 s3 hf => ?_)
    refine X_if_eq (tgt := 30) C dX8_rule_17 (by decide) hf (fun hf => ?_) (fun hf => ?_)
    · refine X_bipush (v := (-2:Int32)) C dX8_rule_30 (by decide) ?_
      exact X_iret C dX8_rule_32 hf Rr
    · refine X_iload C 4 dX8_rule_20 rfl ?_
      refine X_iconst (v := (0:Int32)) C dX8_rule_22 (by decide) ?_
      refine X_iconst (v := (2:Int32)) C dX8_rule_23 (by decide) ?_
      refine X_callSi (As := [.int v4, .int ((0:Int32)), .int ((2:Int32))]) (rest := []) C aw_ok mcs lk_X8_123 (by decide) rfl rfl (Nat.le_of_ble_eq_true rfl) dX8_rule_24 hf (fun r s h => k_X8_in _ _ _ _ (r, s) h) (fun r6 s5 hf => ?_)
      refine X_if_ne (tgt := 33) C dX8_rule_27 (by decide) hf (fun hf => ?_) (fun hf => ?_)
      · refine X_aload_n C 0 dX8_rule_33 rfl rfl ?_
        refine X_geti C 36 sh_36 nc_8 inM_8 (by decide) (mc wd_110) rfl dX8_rule_34 ?_
        refine X_bipush (v := (8:Int32)) C dX8_rule_37 (by decide) ?_
        refine X_icmp_ne (tgt := 45) C dX8_rule_39 (by decide) hf (fun hf => ?_) (fun hf => ?_)
        · refine X_aload_n C 0 dX8_rule_45 rfl rfl ?_
          refine X_getr C 37 sh_36 nc_8 inM_8 (by decide) (mc wd_115) rfl dX8_rule_46 ?_
          refine X_aload_n C 0 dX8_rule_49 rfl rfl ?_
          refine X_geti C 36 sh_36 nc_8 inM_8 (by decide) (mc wd_110) rfl dX8_rule_50 ?_
          refine X_iload_n C 1 dX8_rule_53 rfl rfl ?_
          refine X_iast C sh_54 dX8_rule_54 hf (fun s7 hf => ?_)
          refine X_aload_n C 0 dX8_rule_55 rfl rfl ?_
          refine X_getr C 38 sh_36 nc_8 inM_8 (by decide) (mc wd_116) rfl dX8_rule_56 ?_
          refine X_aload_n C 0 dX8_rule_59 rfl rfl ?_
          refine X_geti C 36 sh_36 nc_8 inM_8 (by decide) (mc wd_110) rfl dX8_rule_60 ?_
          refine X_iload_n C 2 dX8_rule_63 rfl rfl ?_
          refine X_zast C sh_55 dX8_rule_64 hf (fun s8 hf => ?_)
          refine X_aload_n C 0 dX8_rule_65 rfl rfl ?_
          refine X_getr C 39 sh_36 nc_8 inM_8 (by decide) (mc wd_117) rfl dX8_rule_66 ?_
          refine X_aload_n C 0 dX8_rule_69 rfl rfl ?_
          refine X_geti C 36 sh_36 nc_8 inM_8 (by decide) (mc wd_110) rfl dX8_rule_70 ?_
          refine X_iload_n C 3 dX8_rule_73 rfl rfl ?_
          refine X_iast C sh_56 dX8_rule_74 hf (fun s9 hf => ?_)
          refine X_aload_n C 0 dX8_rule_75 rfl rfl ?_
          refine X_getr C 40 sh_36 nc_8 inM_8 (by decide) (mc wd_118) rfl dX8_rule_76 ?_
          refine X_aload_n C 0 dX8_rule_79 rfl rfl ?_
          refine X_geti C 36 sh_36 nc_8 inM_8 (by decide) (mc wd_110) rfl dX8_rule_80 ?_
          refine X_iload C 4 dX8_rule_83 rfl ?_
          refine X_iast C sh_57 dX8_rule_85 hf (fun s10 hf => ?_)
          refine X_aload_n C 0 dX8_rule_86 rfl rfl ?_
          refine X_dup C dX8_rule_87 rfl ?_
          refine X_geti C 36 sh_36 nc_8 inM_8 (by decide) (mc wd_110) rfl dX8_rule_88 ?_
          refine X_iconst (v := (1:Int32)) C dX8_rule_91 (by decide) ?_
          refine X_iadd C dX8_rule_92 ?_
          refine X_puti C 36 sh_36 nc_8 inM_8 (by decide) tyX8 tyX8_ok nmX8 (mc wd_110) rfl (by decide +kernel) rfl dX8_rule_93 hf (fun s11 hf => ?_)
          refine X_aload_n C 0 dX8_rule_96 rfl rfl ?_
          refine X_geti C 36 sh_36 nc_8 inM_8 (by decide) (mc wd_110) rfl dX8_rule_97 ?_
          refine X_iconst (v := (1:Int32)) C dX8_rule_100 (by decide) ?_
          refine X_isub C dX8_rule_101 ?_
          exact X_iret C dX8_rule_102 hf Rr
        · refine X_bipush (v := (-4:Int32)) C dX8_rule_42 (by decide) ?_
          exact X_iret C dX8_rule_44 hf Rr
      · refine X_bipush (v := (-2:Int32)) C dX8_rule_30 (by decide) ?_
        exact X_iret C dX8_rule_32 hf Rr
def f_X8_rule (s : Sg) (v1 : Int32) (v2 : Int32) (v3 : Int32) (v4 : Int32) : Option (Int32 × Sg) := c_X8_rule_0 s v1 v2 v3 v4
theorem k_X8_rule (s : Sg) (v1 : Int32) (v2 : Int32) (v3 : Int32) (v4 : Int32) (o : Int32 × Sg) (hf : f_X8_rule s v1 v2 v3 v4 = some o) : Ctr NM yX8_rule (ws_X8_rule) rm_X8_rule SH s [.ref 36, .int v1, .int v2, .int v3, .int v4] (some (.int o.1)) o.2 :=
  Ctr.of (by decide) rfl (Nat.le_of_ble_eq_true rfl) (fun X C Rr => by show XW NM X 5 0 0 SH s 0 [(0, .ref 36), (1, .int v1), (2, .int v2), (3, .int v3), (4, .int v4)] []; exact w_X8_rule_0 C Rr s v1 v2 v3 v4 hf)
abbrev ws_X8_unrule : List Cond := Cond.code yX8_unrule cX8_unrule 2 (some .int) :: AW
abbrev rm_X8_unrule : Room := { frames := 0, cells := 0, slots := 0, locals := 0 }
def c_X8_unrule_0 (s : Sg) : Option (Int32 × Sg) :=
lt_ (s 36 36) (fun x1 => lt_ (sgu s 36 36 ((0:Int32))) (fun s2 => some (x1, s2)))
set_option maxHeartbeats 4000000 in
set_option maxRecDepth 100000 in
theorem w_X8_unrule_0 {X : Ctx} {o : Int32 × Sg} (C : Cx NM X cX8_unrule 2 RX8 (ws_X8_unrule) (some .int) rm_X8_unrule) (Rr : Rx NM X 0 0 (some (.int o.1)) SH o.2) (s : Sg) (hf : c_X8_unrule_0 s = some o) : XW NM X 2 0 0 SH s 0 [(0, .ref 36)] [] := by
  unfold c_X8_unrule_0 at hf
  refine X_aload_n C 0 dX8_unrule_0 rfl rfl ?_
  refine X_geti C 36 sh_36 nc_8 inM_8 (by decide) (mc wd_110) rfl dX8_unrule_1 ?_
  refine X_nm hf (fun x1 hf => ?_)
  refine X_istore_n (L' := [(0, .ref 36), (1, .int x1)]) C [1, 0] dX8_unrule_4 rfl (by decide) rfl ?_
  refine X_aload_n C 0 dX8_unrule_5 rfl rfl ?_
  refine X_iconst (v := (0:Int32)) C dX8_unrule_6 (by decide) ?_
  refine X_puti C 36 sh_36 nc_8 inM_8 (by decide) tyX8 tyX8_ok nmX8 (mc wd_110) rfl (by decide +kernel) rfl dX8_unrule_7 hf (fun s2 hf => ?_)
  refine X_iload_n C 1 dX8_unrule_10 rfl rfl ?_
  exact X_iret C dX8_unrule_11 hf Rr
def f_X8_unrule (s : Sg) : Option (Int32 × Sg) := c_X8_unrule_0 s
theorem k_X8_unrule (s : Sg) (o : Int32 × Sg) (hf : f_X8_unrule s = some o) : Ctr NM yX8_unrule (ws_X8_unrule) rm_X8_unrule SH s [.ref 36] (some (.int o.1)) o.2 :=
  Ctr.of (by decide) rfl (Nat.le_of_ble_eq_true rfl) (fun X C Rr => by show XW NM X 2 0 0 SH s 0 [(0, .ref 36)] []; exact w_X8_unrule_0 C Rr s hf)
abbrev ws_X8_forge : List Cond := Cond.code yX8_forge cX8_forge 4 (some .int) :: AW
abbrev rm_X8_forge : Room := { frames := 1, cells := 0, slots := 0, locals := 22 }
def c_X8_forge_0 (s : Sg) (v1 : Int32) (v2 : Int32) (v3 : Int32) : Option (Int32 × Sg) :=
bd (f_X8_in s v1 ((0:Int32)) ((15:Int32))) (fun r2 s1 => if r2 = 0 then
 some ((-2:Int32), s1)
 else
 bd (f_X8_in s1 v2 ((0:Int32)) ((2000:Int32))) (fun r4 s3 => if r4 = 0 then
 some ((-2:Int32), s3)
 else
 bd (f_X8_in s3 v3 ((1:Int32)) ((50:Int32))) (fun r6 s5 => if r6 = 0 then
 some ((-2:Int32), s5)
 else
 if (s5 36 41) = ((3:Int32)) then
 some ((-4:Int32), s5)
 else
 gd (vi (s5 36 41) 3) (lt_ (sgu s5 58 (s5 36 41).toNatClampNeg v1) (fun s7 => gd (vi (s7 36 41) 3) (lt_ (sgu s7 59 (s7 36 41).toNatClampNeg v2) (fun s8 => gd (vi (s8 36 41) 3) (lt_ (sgu s8 60 (s8 36 41).toNatClampNeg v3) (fun s9 => lt_ (sgu s9 36 41 ((s9 36 41) + ((1:Int32)))) (fun s10 => some ((s10 36 41) - ((1:Int32)), s10)))))))))))
set_option maxHeartbeats 4000000 in
set_option maxRecDepth 100000 in
theorem w_X8_forge_0 {X : Ctx} {o : Int32 × Sg} (C : Cx NM X cX8_forge 4 RX8 (ws_X8_forge) (some .int) rm_X8_forge) (Rr : Rx NM X 0 0 (some (.int o.1)) SH o.2) (s : Sg) (v1 : Int32) (v2 : Int32) (v3 : Int32) (hf : c_X8_forge_0 s v1 v2 v3 = some o) : XW NM X 4 0 0 SH s 0 [(0, .ref 36), (1, .int v1), (2, .int v2), (3, .int v3)] [] := by
  unfold c_X8_forge_0 at hf
  refine X_iload_n C 1 dX8_forge_0 rfl rfl ?_
  refine X_iconst (v := (0:Int32)) C dX8_forge_1 (by decide) ?_
  refine X_bipush (v := (15:Int32)) C dX8_forge_2 (by decide) ?_
  refine X_callSi (As := [.int v1, .int ((0:Int32)), .int ((15:Int32))]) (rest := []) C aw_ok mcs lk_X8_123 (by decide) rfl rfl (Nat.le_of_ble_eq_true rfl) dX8_forge_4 hf (fun r s h => k_X8_in _ _ _ _ (r, s) h) (fun r2 s1 hf => ?_)
  refine X_if_eq (tgt := 31) C dX8_forge_7 (by decide) hf (fun hf => ?_) (fun hf => ?_)
  · refine X_bipush (v := (-2:Int32)) C dX8_forge_31 (by decide) ?_
    exact X_iret C dX8_forge_33 hf Rr
  · refine X_iload_n C 2 dX8_forge_10 rfl rfl ?_
    refine X_iconst (v := (0:Int32)) C dX8_forge_11 (by decide) ?_
    refine X_sipush (v := (2000:Int32)) C dX8_forge_12 (by decide) ?_
    refine X_callSi (As := [.int v2, .int ((0:Int32)), .int ((2000:Int32))]) (rest := []) C aw_ok mcs lk_X8_123 (by decide) rfl rfl (Nat.le_of_ble_eq_true rfl) dX8_forge_15 hf (fun r s h => k_X8_in _ _ _ _ (r, s) h) (fun r4 s3 hf => ?_)
    refine X_if_eq (tgt := 31) C dX8_forge_18 (by decide) hf (fun hf => ?_) (fun hf => ?_)
    · refine X_bipush (v := (-2:Int32)) C dX8_forge_31 (by decide) ?_
      exact X_iret C dX8_forge_33 hf Rr
    · refine X_iload_n C 3 dX8_forge_21 rfl rfl ?_
      refine X_iconst (v := (1:Int32)) C dX8_forge_22 (by decide) ?_
      refine X_bipush (v := (50:Int32)) C dX8_forge_23 (by decide) ?_
      refine X_callSi (As := [.int v3, .int ((1:Int32)), .int ((50:Int32))]) (rest := []) C aw_ok mcs lk_X8_123 (by decide) rfl rfl (Nat.le_of_ble_eq_true rfl) dX8_forge_25 hf (fun r s h => k_X8_in _ _ _ _ (r, s) h) (fun r6 s5 hf => ?_)
      refine X_if_ne (tgt := 34) C dX8_forge_28 (by decide) hf (fun hf => ?_) (fun hf => ?_)
      · refine X_aload_n C 0 dX8_forge_34 rfl rfl ?_
        refine X_geti C 41 sh_36 nc_8 inM_8 (by decide) (mc wd_119) rfl dX8_forge_35 ?_
        refine X_iconst (v := (3:Int32)) C dX8_forge_38 (by decide) ?_
        refine X_icmp_ne (tgt := 45) C dX8_forge_39 (by decide) hf (fun hf => ?_) (fun hf => ?_)
        · refine X_aload_n C 0 dX8_forge_45 rfl rfl ?_
          refine X_getr C 42 sh_36 nc_8 inM_8 (by decide) (mc wd_120) rfl dX8_forge_46 ?_
          refine X_aload_n C 0 dX8_forge_49 rfl rfl ?_
          refine X_geti C 41 sh_36 nc_8 inM_8 (by decide) (mc wd_119) rfl dX8_forge_50 ?_
          refine X_iload_n C 1 dX8_forge_53 rfl rfl ?_
          refine X_iast C sh_58 dX8_forge_54 hf (fun s7 hf => ?_)
          refine X_aload_n C 0 dX8_forge_55 rfl rfl ?_
          refine X_getr C 43 sh_36 nc_8 inM_8 (by decide) (mc wd_121) rfl dX8_forge_56 ?_
          refine X_aload_n C 0 dX8_forge_59 rfl rfl ?_
          refine X_geti C 41 sh_36 nc_8 inM_8 (by decide) (mc wd_119) rfl dX8_forge_60 ?_
          refine X_iload_n C 2 dX8_forge_63 rfl rfl ?_
          refine X_iast C sh_59 dX8_forge_64 hf (fun s8 hf => ?_)
          refine X_aload_n C 0 dX8_forge_65 rfl rfl ?_
          refine X_getr C 44 sh_36 nc_8 inM_8 (by decide) (mc wd_122) rfl dX8_forge_66 ?_
          refine X_aload_n C 0 dX8_forge_69 rfl rfl ?_
          refine X_geti C 41 sh_36 nc_8 inM_8 (by decide) (mc wd_119) rfl dX8_forge_70 ?_
          refine X_iload_n C 3 dX8_forge_73 rfl rfl ?_
          refine X_iast C sh_60 dX8_forge_74 hf (fun s9 hf => ?_)
          refine X_aload_n C 0 dX8_forge_75 rfl rfl ?_
          refine X_dup C dX8_forge_76 rfl ?_
          refine X_geti C 41 sh_36 nc_8 inM_8 (by decide) (mc wd_119) rfl dX8_forge_77 ?_
          refine X_iconst (v := (1:Int32)) C dX8_forge_80 (by decide) ?_
          refine X_iadd C dX8_forge_81 ?_
          refine X_puti C 41 sh_36 nc_8 inM_8 (by decide) tyX8 tyX8_ok nmX8 (mc wd_119) rfl (by decide +kernel) rfl dX8_forge_82 hf (fun s10 hf => ?_)
          refine X_aload_n C 0 dX8_forge_85 rfl rfl ?_
          refine X_geti C 41 sh_36 nc_8 inM_8 (by decide) (mc wd_119) rfl dX8_forge_86 ?_
          refine X_iconst (v := (1:Int32)) C dX8_forge_89 (by decide) ?_
          refine X_isub C dX8_forge_90 ?_
          exact X_iret C dX8_forge_91 hf Rr
        · refine X_bipush (v := (-4:Int32)) C dX8_forge_42 (by decide) ?_
          exact X_iret C dX8_forge_44 hf Rr
      · refine X_bipush (v := (-2:Int32)) C dX8_forge_31 (by decide) ?_
        exact X_iret C dX8_forge_33 hf Rr
def f_X8_forge (s : Sg) (v1 : Int32) (v2 : Int32) (v3 : Int32) : Option (Int32 × Sg) := c_X8_forge_0 s v1 v2 v3
theorem k_X8_forge (s : Sg) (v1 : Int32) (v2 : Int32) (v3 : Int32) (o : Int32 × Sg) (hf : f_X8_forge s v1 v2 v3 = some o) : Ctr NM yX8_forge (ws_X8_forge) rm_X8_forge SH s [.ref 36, .int v1, .int v2, .int v3] (some (.int o.1)) o.2 :=
  Ctr.of (by decide) rfl (Nat.le_of_ble_eq_true rfl) (fun X C Rr => by show XW NM X 4 0 0 SH s 0 [(0, .ref 36), (1, .int v1), (2, .int v2), (3, .int v3)] []; exact w_X8_forge_0 C Rr s v1 v2 v3 hf)
abbrev ws_X8_digit : List Cond := Cond.code yX8_digit cX8_digit 5 (some .int) :: AW
abbrev rm_X8_digit : Room := { frames := 0, cells := 0, slots := 0, locals := 0 }
def c_X8_digit_31 (N : Nat) (s : Sg) (v3 : Int32) : Option (Int32 × Sg) :=
gd (!decide (((s 36 41) + ((1:Int32))) = 0)) (some (v3 - v3 / ((s 36 41) + ((1:Int32))) * ((s 36 41) + ((1:Int32))), s))
set_option maxHeartbeats 4000000 in
set_option maxRecDepth 100000 in
theorem w_X8_digit_31 {X : Ctx} {N : Nat} {o : Int32 × Sg} (C : Cx NM X cX8_digit 5 RX8 (ws_X8_digit) (some .int) rm_X8_digit) (Rr : Rx NM X 0 0 (some (.int o.1)) SH o.2) (s : Sg) (v3 : Int32) (hf : c_X8_digit_31 N s v3 = some o) : XW NM X 5 0 0 SH s 31 [(0, .ref 36), (3, .int v3)] [] := by
  unfold c_X8_digit_31 at hf
  refine X_iload_n C 1 dX8_digit_31 rfl rfl ?_
  refine X_aload_n C 0 dX8_digit_32 rfl rfl ?_
  refine X_geti C 41 sh_36 nc_8 inM_8 (by decide) (mc wd_119) rfl dX8_digit_33 ?_
  refine X_iconst (v := (1:Int32)) C dX8_digit_36 (by decide) ?_
  refine X_iadd C dX8_digit_37 ?_
  refine X_irem C dX8_digit_38 hf (fun hf => ?_)
  exact X_iret C dX8_digit_39 hf Rr
def c_X8_digit_10 (N : Nat) (K10 : Sg → Int32 → Int32 → Int32 → Option (Int32 × Sg)) (s : Sg) (v2 : Int32) (v3 : Int32) (v4 : Int32) : Option (Int32 × Sg) :=
if v4 ≤ v2 then
 c_X8_digit_31 N s v3
 else
 gd (!decide (((s 36 41) + ((1:Int32))) = 0)) (lt_ (v3 / ((s 36 41) + ((1:Int32)))) (fun x1 => K10 s v2 x1 (v4 + (-1:Int32))))
set_option maxHeartbeats 4000000 in
set_option maxRecDepth 100000 in
theorem w_X8_digit_10 {X : Ctx} {N : Nat} {o : Int32 × Sg} (C : Cx NM X cX8_digit 5 RX8 (ws_X8_digit) (some .int) rm_X8_digit) (Rr : Rx NM X 0 0 (some (.int o.1)) SH o.2) {K10 : Sg → Int32 → Int32 → Int32 → Option (Int32 × Sg)} (hK10 : ∀ (s : Sg) (v2 : Int32) (v3 : Int32) (v4 : Int32), K10 s v2 v3 v4 = some o → XW NM X 5 0 0 SH s 10 [(0, .ref 36), (2, .int v2), (3, .int v3), (4, .int v4)] []) (s : Sg) (v2 : Int32) (v3 : Int32) (v4 : Int32) (hf : c_X8_digit_10 N K10 s v2 v3 v4 = some o) : XW NM X 5 0 0 SH s 10 [(0, .ref 36), (2, .int v2), (3, .int v3), (4, .int v4)] [] := by
  unfold c_X8_digit_10 at hf
  refine X_iload C 3 dX8_digit_10 rfl ?_
  refine X_iload_n C 1 dX8_digit_12 rfl rfl ?_
  refine X_icmp_le (tgt := 31) C dX8_digit_13 (by decide) hf (fun hf => ?_) (fun hf => ?_)
  · refine X_loc (L' := [(0, .ref 36), (3, .int v3)]) [0, 2] rfl ?_
    exact w_X8_digit_31 C Rr _ _ hf
  · refine X_iload_n C 2 dX8_digit_16 rfl rfl ?_
    refine X_aload_n C 0 dX8_digit_17 rfl rfl ?_
    refine X_geti C 41 sh_36 nc_8 inM_8 (by decide) (mc wd_119) rfl dX8_digit_18 ?_
    refine X_iconst (v := (1:Int32)) C dX8_digit_21 (by decide) ?_
    refine X_iadd C dX8_digit_22 ?_
    refine X_idiv C dX8_digit_23 hf (fun hf => ?_)
    refine X_nm hf (fun x1 hf => ?_)
    refine X_istore_n (L' := [(0, .ref 36), (2, .int v2), (3, .int x1), (4, .int v4)]) C [1, 2, 0, 3] dX8_digit_24 rfl (by decide) rfl ?_
    refine X_iinc (v := (-1:Int32)) (L' := [(0, .ref 36), (2, .int v2), (3, .int x1), (4, .int (v4 + (-1:Int32)))]) C 3 [1, 2, 3, 0] dX8_digit_25 rfl (by decide) (by decide) rfl ?_
    refine X_goto (tgt := 10) C dX8_digit_28 (by decide) ?_
    exact hK10 _ _ _ _ hf
def b_X8_digit_10 (N : Nat) : Nat → Sg → Int32 → Int32 → Int32 → Option (Int32 × Sg)
  | 0, _, _, _, _ => none
  | j + 1, s, v2, v3, v4 => c_X8_digit_10 N (b_X8_digit_10 N j) s v2 v3 v4
theorem h_X8_digit_10 {X : Ctx} {N : Nat} {o : Int32 × Sg} (C : Cx NM X cX8_digit 5 RX8 (ws_X8_digit) (some .int) rm_X8_digit) (Rr : Rx NM X 0 0 (some (.int o.1)) SH o.2) : ∀ (j : Nat) (s : Sg) (v2 : Int32) (v3 : Int32) (v4 : Int32), b_X8_digit_10 N j s v2 v3 v4 = some o → XW NM X 5 0 0 SH s 10 [(0, .ref 36), (2, .int v2), (3, .int v3), (4, .int v4)] [] := by
  intro j
  induction j with
  | zero => intro s v2 v3 v4 hf; cases (show none = some o from hf)
  | succ j ih => intro s v2 v3 v4 hf; exact w_X8_digit_10 C Rr ih s v2 v3 v4 hf
def c_X8_digit_0 (N : Nat) (s : Sg) (v1 : Int32) (v2 : Int32) : Option (Int32 × Sg) :=
lt_ ((s 36 54) - ((1:Int32))) (fun x1 => b_X8_digit_10 N N s v2 v1 x1)
set_option maxHeartbeats 4000000 in
set_option maxRecDepth 100000 in
theorem w_X8_digit_0 {X : Ctx} {N : Nat} {o : Int32 × Sg} (C : Cx NM X cX8_digit 5 RX8 (ws_X8_digit) (some .int) rm_X8_digit) (Rr : Rx NM X 0 0 (some (.int o.1)) SH o.2) (s : Sg) (v1 : Int32) (v2 : Int32) (hf : c_X8_digit_0 N s v1 v2 = some o) : XW NM X 5 0 0 SH s 0 [(0, .ref 36), (1, .int v1), (2, .int v2)] [] := by
  unfold c_X8_digit_0 at hf
  refine X_iload_n C 1 dX8_digit_0 rfl rfl ?_
  refine X_istore_n (L' := [(0, .ref 36), (1, .int v1), (2, .int v2), (3, .int v1)]) C [1, 2, 3, 0] dX8_digit_1 rfl (by decide) rfl ?_
  refine X_aload_n C 0 dX8_digit_2 rfl rfl ?_
  refine X_geti C 54 sh_36 nc_8 inM_8 (by decide) (mc wd_123) rfl dX8_digit_3 ?_
  refine X_iconst (v := (1:Int32)) C dX8_digit_6 (by decide) ?_
  refine X_isub C dX8_digit_7 ?_
  refine X_nm hf (fun x1 hf => ?_)
  refine X_istore (L' := [(0, .ref 36), (1, .int v1), (2, .int v2), (3, .int v1), (4, .int x1)]) C [1, 2, 3, 4, 0] dX8_digit_8 (by decide) rfl ?_
  refine X_loc (L' := [(0, .ref 36), (2, .int v2), (3, .int v1), (4, .int x1)]) [0, 2, 3, 4] rfl ?_
  exact h_X8_digit_10 C Rr _ _ _ _ _ hf
def f_X8_digit (N : Nat) (s : Sg) (v1 : Int32) (v2 : Int32) : Option (Int32 × Sg) := c_X8_digit_0 N s v1 v2
theorem k_X8_digit {N : Nat} (s : Sg) (v1 : Int32) (v2 : Int32) (o : Int32 × Sg) (hf : f_X8_digit N s v1 v2 = some o) : Ctr NM yX8_digit (ws_X8_digit) rm_X8_digit SH s [.ref 36, .int v1, .int v2] (some (.int o.1)) o.2 :=
  Ctr.of (by decide) rfl (Nat.le_of_ble_eq_true rfl) (fun X C Rr => by show XW NM X 5 0 0 SH s 0 [(0, .ref 36), (1, .int v1), (2, .int v2)] []; exact w_X8_digit_0 C Rr s v1 v2 hf)
abbrev ws_X8_payOf : List Cond := Cond.code yX8_payOf cX8_payOf 6 (some .int) :: AW
abbrev rm_X8_payOf : Room := { frames := 1, cells := 0, slots := 0, locals := 24 }
def c_X8_payOf_139 (N : Nat) (K32 : Sg → Int32 → Int32 → Int32 → Option (Int32 × Sg)) (s : Sg) (v1 : Int32) (v2 : Int32) (v3 : Int32) : Option (Int32 × Sg) :=
K32 s v1 v2 (v3 + (1:Int32))
set_option maxHeartbeats 4000000 in
set_option maxRecDepth 100000 in
theorem w_X8_payOf_139 {X : Ctx} {N : Nat} {o : Int32 × Sg} (C : Cx NM X cX8_payOf 6 RX8 (ws_X8_payOf) (some .int) rm_X8_payOf) (Rr : Rx NM X 0 0 (some (.int o.1)) SH o.2) {K32 : Sg → Int32 → Int32 → Int32 → Option (Int32 × Sg)} (hK32 : ∀ (s : Sg) (v1 : Int32) (v2 : Int32) (v3 : Int32), K32 s v1 v2 v3 = some o → XW NM X 6 0 0 SH s 32 [(0, .ref 36), (1, .int v1), (2, .int v2), (3, .int v3)] []) (s : Sg) (v1 : Int32) (v2 : Int32) (v3 : Int32) (hf : c_X8_payOf_139 N K32 s v1 v2 v3 = some o) : XW NM X 6 0 0 SH s 139 [(0, .ref 36), (1, .int v1), (2, .int v2), (3, .int v3)] [] := by
  unfold c_X8_payOf_139 at hf
  refine X_iinc (v := (1:Int32)) (L' := [(0, .ref 36), (1, .int v1), (2, .int v2), (3, .int (v3 + (1:Int32)))]) C 3 [1, 2, 3, 0] dX8_payOf_139 rfl (by decide) (by decide) rfl ?_
  refine X_goto (tgt := 32) C dX8_payOf_142 (by decide) ?_
  exact hK32 _ _ _ _ hf
def c_X8_payOf_32 (N : Nat) (K32 : Sg → Int32 → Int32 → Int32 → Option (Int32 × Sg)) (s : Sg) (v1 : Int32) (v2 : Int32) (v3 : Int32) : Option (Int32 × Sg) :=
if (s 36 54) ≤ v3 then
 some (v2, s)
 else
 bd (f_X8_digit N s v1 v3) (fun r2 s1 => if (s1 36 41) ≤ r2 then
 c_X8_payOf_139 N K32 s1 v1 v2 v3
 else
 gd (vi v3 8) (lt_ (s1 67 v3.toNatClampNeg) (fun x3 => gd (vi r2 3) (gd (vi x3 60) (if (((s1 58 r2.toNatClampNeg) >>> ((s1 47 x3.toNatClampNeg) &&& 31)) &&& ((1:Int32))) = 0 then
 some ((-1:Int32), s1)
 else
 gd (vi r2 3) (gd (vi x3 60) (if (s1 46 x3.toNatClampNeg) ≤ (s1 68 r2.toNatClampNeg) then
 gd (vi r2 3) (gd (vi x3 60) (gd (vi r2 3) (lt_ (sgu s1 68 r2.toNatClampNeg ((s1 68 r2.toNatClampNeg) - (s1 46 x3.toNatClampNeg))) (fun s4 => gd (vi x3 60) (gd (vi r2 3) (lt_ (v2 + ((s4 46 x3.toNatClampNeg) * (s4 60 r2.toNatClampNeg))) (fun x5 => c_X8_payOf_139 N K32 s4 v1 x5 v3)))))))
 else
 some ((-1:Int32), s1))))))))
set_option maxHeartbeats 4000000 in
set_option maxRecDepth 100000 in
theorem w_X8_payOf_32 {X : Ctx} {N : Nat} {o : Int32 × Sg} (C : Cx NM X cX8_payOf 6 RX8 (ws_X8_payOf) (some .int) rm_X8_payOf) (Rr : Rx NM X 0 0 (some (.int o.1)) SH o.2) {K32 : Sg → Int32 → Int32 → Int32 → Option (Int32 × Sg)} (hK32 : ∀ (s : Sg) (v1 : Int32) (v2 : Int32) (v3 : Int32), K32 s v1 v2 v3 = some o → XW NM X 6 0 0 SH s 32 [(0, .ref 36), (1, .int v1), (2, .int v2), (3, .int v3)] []) (s : Sg) (v1 : Int32) (v2 : Int32) (v3 : Int32) (hf : c_X8_payOf_32 N K32 s v1 v2 v3 = some o) : XW NM X 6 0 0 SH s 32 [(0, .ref 36), (1, .int v1), (2, .int v2), (3, .int v3)] [] := by
  unfold c_X8_payOf_32 at hf
  refine X_iload_n C 3 dX8_payOf_32 rfl rfl ?_
  refine X_aload_n C 0 dX8_payOf_33 rfl rfl ?_
  refine X_geti C 54 sh_36 nc_8 inM_8 (by decide) (mc wd_123) rfl dX8_payOf_34 ?_
  refine X_icmp_ge (tgt := 145) C dX8_payOf_37 (by decide) hf (fun hf => ?_) (fun hf => ?_)
  · refine X_iload_n C 2 dX8_payOf_145 rfl rfl ?_
    exact X_iret C dX8_payOf_146 hf Rr
  · refine X_aload_n C 0 dX8_payOf_40 rfl rfl ?_
    refine X_iload_n C 1 dX8_payOf_41 rfl rfl ?_
    refine X_iload_n C 3 dX8_payOf_42 rfl rfl ?_
    refine X_callVi (As := [.int v1, .int v3]) (rest := []) C aw_ok mcs lk_X8_198 sh_36 nc_8 (by decide) rfl rfl (Nat.le_of_ble_eq_true rfl) dX8_payOf_43 hf (fun r s h => k_X8_digit _ _ _ (r, s) h) (fun r2 s1 hf => ?_)
    refine X_istore (L' := [(0, .ref 36), (1, .int v1), (2, .int v2), (3, .int v3), (4, .int r2)]) C [1, 2, 3, 4, 0] dX8_payOf_46 (by decide) rfl ?_
    refine X_iload C 4 dX8_payOf_48 rfl ?_
    refine X_aload_n C 0 dX8_payOf_50 rfl rfl ?_
    refine X_geti C 41 sh_36 nc_8 inM_8 (by decide) (mc wd_119) rfl dX8_payOf_51 ?_
    refine X_icmp_ge (tgt := 139) C dX8_payOf_54 (by decide) hf (fun hf => ?_) (fun hf => ?_)
    · refine X_loc (L' := [(0, .ref 36), (1, .int v1), (2, .int v2), (3, .int v3)]) [0, 1, 2, 3] rfl ?_
      exact w_X8_payOf_139 C Rr hK32 _ _ _ _ hf
    · refine X_aload_n C 0 dX8_payOf_57 rfl rfl ?_
      refine X_getr C 53 sh_36 nc_8 inM_8 (by decide) (mc wd_124) rfl dX8_payOf_58 ?_
      refine X_iload_n C 3 dX8_payOf_61 rfl rfl ?_
      refine X_iald C sh_67 dX8_payOf_62 hf (fun hf => ?_)
      refine X_nm hf (fun x3 hf => ?_)
      refine X_istore (L' := [(0, .ref 36), (1, .int v1), (2, .int v2), (3, .int v3), (4, .int r2), (5, .int x3)]) C [1, 2, 3, 4, 5, 0] dX8_payOf_63 (by decide) rfl ?_
      refine X_aload_n C 0 dX8_payOf_65 rfl rfl ?_
      refine X_getr C 42 sh_36 nc_8 inM_8 (by decide) (mc wd_120) rfl dX8_payOf_66 ?_
      refine X_iload C 4 dX8_payOf_69 rfl ?_
      refine X_iald C sh_58 dX8_payOf_71 hf (fun hf => ?_)
      refine X_aload_n C 0 dX8_payOf_72 rfl rfl ?_
      refine X_getr C 29 sh_36 nc_8 inM_8 (by decide) (mc wd_95) rfl dX8_payOf_73 ?_
      refine X_iload C 5 dX8_payOf_76 rfl ?_
      refine X_iald C sh_47 dX8_payOf_78 hf (fun hf => ?_)
      refine X_ishr C dX8_payOf_79 ?_
      refine X_iconst (v := (1:Int32)) C dX8_payOf_80 (by decide) ?_
      refine X_iand C dX8_payOf_81 ?_
      refine X_if_eq (tgt := 102) C dX8_payOf_82 (by decide) hf (fun hf => ?_) (fun hf => ?_)
      · refine X_iconst (v := (-1:Int32)) C dX8_payOf_102 (by decide) ?_
        exact X_iret C dX8_payOf_103 hf Rr
      · refine X_aload_n C 0 dX8_payOf_85 rfl rfl ?_
        refine X_getr C 56 sh_36 nc_8 inM_8 (by decide) (mc wd_125) rfl dX8_payOf_86 ?_
        refine X_iload C 4 dX8_payOf_89 rfl ?_
        refine X_iald C sh_68 dX8_payOf_91 hf (fun hf => ?_)
        refine X_aload_n C 0 dX8_payOf_92 rfl rfl ?_
        refine X_getr C 28 sh_36 nc_8 inM_8 (by decide) (mc wd_94) rfl dX8_payOf_93 ?_
        refine X_iload C 5 dX8_payOf_96 rfl ?_
        refine X_iald C sh_46 dX8_payOf_98 hf (fun hf => ?_)
        refine X_icmp_ge (tgt := 104) C dX8_payOf_99 (by decide) hf (fun hf => ?_) (fun hf => ?_)
        · refine X_aload_n C 0 dX8_payOf_104 rfl rfl ?_
          refine X_getr C 56 sh_36 nc_8 inM_8 (by decide) (mc wd_125) rfl dX8_payOf_105 ?_
          refine X_iload C 4 dX8_payOf_108 rfl ?_
          refine X_dup2 C dX8_payOf_110 rfl rfl ?_
          refine X_iald C sh_68 dX8_payOf_111 hf (fun hf => ?_)
          refine X_aload_n C 0 dX8_payOf_112 rfl rfl ?_
          refine X_getr C 28 sh_36 nc_8 inM_8 (by decide) (mc wd_94) rfl dX8_payOf_113 ?_
          refine X_iload C 5 dX8_payOf_116 rfl ?_
          refine X_iald C sh_46 dX8_payOf_118 hf (fun hf => ?_)
          refine X_isub C dX8_payOf_119 ?_
          refine X_iast C sh_68 dX8_payOf_120 hf (fun s4 hf => ?_)
          refine X_iload_n C 2 dX8_payOf_121 rfl rfl ?_
          refine X_aload_n C 0 dX8_payOf_122 rfl rfl ?_
          refine X_getr C 28 sh_36 nc_8 inM_8 (by decide) (mc wd_94) rfl dX8_payOf_123 ?_
          refine X_iload C 5 dX8_payOf_126 rfl ?_
          refine X_iald C sh_46 dX8_payOf_128 hf (fun hf => ?_)
          refine X_aload_n C 0 dX8_payOf_129 rfl rfl ?_
          refine X_getr C 44 sh_36 nc_8 inM_8 (by decide) (mc wd_122) rfl dX8_payOf_130 ?_
          refine X_iload C 4 dX8_payOf_133 rfl ?_
          refine X_iald C sh_60 dX8_payOf_135 hf (fun hf => ?_)
          refine X_imul C dX8_payOf_136 ?_
          refine X_iadd C dX8_payOf_137 ?_
          refine X_nm hf (fun x5 hf => ?_)
          refine X_istore_n (L' := [(0, .ref 36), (1, .int v1), (2, .int x5), (3, .int v3), (4, .int r2), (5, .int x3)]) C [1, 2, 0, 3, 4, 5] dX8_payOf_138 rfl (by decide) rfl ?_
          refine X_loc (L' := [(0, .ref 36), (1, .int v1), (2, .int x5), (3, .int v3)]) [0, 1, 2, 3] rfl ?_
          exact w_X8_payOf_139 C Rr hK32 _ _ _ _ hf
        · refine X_iconst (v := (-1:Int32)) C dX8_payOf_102 (by decide) ?_
          exact X_iret C dX8_payOf_103 hf Rr
def b_X8_payOf_32 (N : Nat) : Nat → Sg → Int32 → Int32 → Int32 → Option (Int32 × Sg)
  | 0, _, _, _, _ => none
  | j + 1, s, v1, v2, v3 => c_X8_payOf_32 N (b_X8_payOf_32 N j) s v1 v2 v3
theorem h_X8_payOf_32 {X : Ctx} {N : Nat} {o : Int32 × Sg} (C : Cx NM X cX8_payOf 6 RX8 (ws_X8_payOf) (some .int) rm_X8_payOf) (Rr : Rx NM X 0 0 (some (.int o.1)) SH o.2) : ∀ (j : Nat) (s : Sg) (v1 : Int32) (v2 : Int32) (v3 : Int32), b_X8_payOf_32 N j s v1 v2 v3 = some o → XW NM X 6 0 0 SH s 32 [(0, .ref 36), (1, .int v1), (2, .int v2), (3, .int v3)] [] := by
  intro j
  induction j with
  | zero => intro s v1 v2 v3 hf; cases (show none = some o from hf)
  | succ j ih => intro s v1 v2 v3 hf; exact w_X8_payOf_32 C Rr ih s v1 v2 v3 hf
def c_X8_payOf_28 (N : Nat) (s : Sg) (v1 : Int32) : Option (Int32 × Sg) :=
b_X8_payOf_32 N N s v1 ((0:Int32)) ((0:Int32))
set_option maxHeartbeats 4000000 in
set_option maxRecDepth 100000 in
theorem w_X8_payOf_28 {X : Ctx} {N : Nat} {o : Int32 × Sg} (C : Cx NM X cX8_payOf 6 RX8 (ws_X8_payOf) (some .int) rm_X8_payOf) (Rr : Rx NM X 0 0 (some (.int o.1)) SH o.2) (s : Sg) (v1 : Int32) (hf : c_X8_payOf_28 N s v1 = some o) : XW NM X 6 0 0 SH s 28 [(0, .ref 36), (1, .int v1)] [] := by
  unfold c_X8_payOf_28 at hf
  refine X_iconst (v := (0:Int32)) C dX8_payOf_28 (by decide) ?_
  refine X_istore_n (L' := [(0, .ref 36), (1, .int v1), (2, .int ((0:Int32)))]) C [1, 2, 0] dX8_payOf_29 rfl (by decide) rfl ?_
  refine X_iconst (v := (0:Int32)) C dX8_payOf_30 (by decide) ?_
  refine X_istore_n (L' := [(0, .ref 36), (1, .int v1), (2, .int ((0:Int32))), (3, .int ((0:Int32)))]) C [1, 2, 3, 0] dX8_payOf_31 rfl (by decide) rfl ?_
  exact h_X8_payOf_32 C Rr _ _ _ _ _ hf
def c_X8_payOf_2 (N : Nat) (K2 : Sg → Int32 → Int32 → Option (Int32 × Sg)) (s : Sg) (v1 : Int32) (v2 : Int32) : Option (Int32 × Sg) :=
if (s 36 41) ≤ v2 then
 c_X8_payOf_28 N s v1
 else
 gd (vi v2 3) (gd (vi v2 3) (lt_ (sgu s 68 v2.toNatClampNeg (s 59 v2.toNatClampNeg)) (fun s1 => K2 s1 v1 (v2 + (1:Int32)))))
set_option maxHeartbeats 4000000 in
set_option maxRecDepth 100000 in
theorem w_X8_payOf_2 {X : Ctx} {N : Nat} {o : Int32 × Sg} (C : Cx NM X cX8_payOf 6 RX8 (ws_X8_payOf) (some .int) rm_X8_payOf) (Rr : Rx NM X 0 0 (some (.int o.1)) SH o.2) {K2 : Sg → Int32 → Int32 → Option (Int32 × Sg)} (hK2 : ∀ (s : Sg) (v1 : Int32) (v2 : Int32), K2 s v1 v2 = some o → XW NM X 6 0 0 SH s 2 [(0, .ref 36), (1, .int v1), (2, .int v2)] []) (s : Sg) (v1 : Int32) (v2 : Int32) (hf : c_X8_payOf_2 N K2 s v1 v2 = some o) : XW NM X 6 0 0 SH s 2 [(0, .ref 36), (1, .int v1), (2, .int v2)] [] := by
  unfold c_X8_payOf_2 at hf
  refine X_iload_n C 2 dX8_payOf_2 rfl rfl ?_
  refine X_aload_n C 0 dX8_payOf_3 rfl rfl ?_
  refine X_geti C 41 sh_36 nc_8 inM_8 (by decide) (mc wd_119) rfl dX8_payOf_4 ?_
  refine X_icmp_ge (tgt := 28) C dX8_payOf_7 (by decide) hf (fun hf => ?_) (fun hf => ?_)
  · refine X_loc (L' := [(0, .ref 36), (1, .int v1)]) [0, 1] rfl ?_
    exact w_X8_payOf_28 C Rr _ _ hf
  · refine X_aload_n C 0 dX8_payOf_10 rfl rfl ?_
    refine X_getr C 56 sh_36 nc_8 inM_8 (by decide) (mc wd_125) rfl dX8_payOf_11 ?_
    refine X_iload_n C 2 dX8_payOf_14 rfl rfl ?_
    refine X_aload_n C 0 dX8_payOf_15 rfl rfl ?_
    refine X_getr C 43 sh_36 nc_8 inM_8 (by decide) (mc wd_121) rfl dX8_payOf_16 ?_
    refine X_iload_n C 2 dX8_payOf_19 rfl rfl ?_
    refine X_iald C sh_59 dX8_payOf_20 hf (fun hf => ?_)
    refine X_iast C sh_68 dX8_payOf_21 hf (fun s1 hf => ?_)
    refine X_iinc (v := (1:Int32)) (L' := [(0, .ref 36), (1, .int v1), (2, .int (v2 + (1:Int32)))]) C 2 [1, 2, 0] dX8_payOf_22 rfl (by decide) (by decide) rfl ?_
    refine X_goto (tgt := 2) C dX8_payOf_25 (by decide) ?_
    exact hK2 _ _ _ hf
def b_X8_payOf_2 (N : Nat) : Nat → Sg → Int32 → Int32 → Option (Int32 × Sg)
  | 0, _, _, _ => none
  | j + 1, s, v1, v2 => c_X8_payOf_2 N (b_X8_payOf_2 N j) s v1 v2
theorem h_X8_payOf_2 {X : Ctx} {N : Nat} {o : Int32 × Sg} (C : Cx NM X cX8_payOf 6 RX8 (ws_X8_payOf) (some .int) rm_X8_payOf) (Rr : Rx NM X 0 0 (some (.int o.1)) SH o.2) : ∀ (j : Nat) (s : Sg) (v1 : Int32) (v2 : Int32), b_X8_payOf_2 N j s v1 v2 = some o → XW NM X 6 0 0 SH s 2 [(0, .ref 36), (1, .int v1), (2, .int v2)] [] := by
  intro j
  induction j with
  | zero => intro s v1 v2 hf; cases (show none = some o from hf)
  | succ j ih => intro s v1 v2 hf; exact w_X8_payOf_2 C Rr ih s v1 v2 hf
def c_X8_payOf_0 (N : Nat) (s : Sg) (v1 : Int32) : Option (Int32 × Sg) :=
b_X8_payOf_2 N N s v1 ((0:Int32))
set_option maxHeartbeats 4000000 in
set_option maxRecDepth 100000 in
theorem w_X8_payOf_0 {X : Ctx} {N : Nat} {o : Int32 × Sg} (C : Cx NM X cX8_payOf 6 RX8 (ws_X8_payOf) (some .int) rm_X8_payOf) (Rr : Rx NM X 0 0 (some (.int o.1)) SH o.2) (s : Sg) (v1 : Int32) (hf : c_X8_payOf_0 N s v1 = some o) : XW NM X 6 0 0 SH s 0 [(0, .ref 36), (1, .int v1)] [] := by
  unfold c_X8_payOf_0 at hf
  refine X_iconst (v := (0:Int32)) C dX8_payOf_0 (by decide) ?_
  refine X_istore_n (L' := [(0, .ref 36), (1, .int v1), (2, .int ((0:Int32)))]) C [1, 2, 0] dX8_payOf_1 rfl (by decide) rfl ?_
  exact h_X8_payOf_2 C Rr _ _ _ _ hf
def f_X8_payOf (N : Nat) (s : Sg) (v1 : Int32) : Option (Int32 × Sg) := c_X8_payOf_0 N s v1
theorem k_X8_payOf {N : Nat} (s : Sg) (v1 : Int32) (o : Int32 × Sg) (hf : f_X8_payOf N s v1 = some o) : Ctr NM yX8_payOf (ws_X8_payOf) rm_X8_payOf SH s [.ref 36, .int v1] (some (.int o.1)) o.2 :=
  Ctr.of (by decide) rfl (Nat.le_of_ble_eq_true rfl) (fun X C Rr => by show XW NM X 6 0 0 SH s 0 [(0, .ref 36), (1, .int v1)] []; exact w_X8_payOf_0 C Rr s v1 hf)

set_option maxHeartbeats 4000000 in
set_option maxRecDepth 100000 in
theorem tB_Mo_append_2 {p : Program} {l : Launch} {e : Env} {R : Room} {s : State} {m : MethodId} {args : Array Value} {below : List Frame} {meth : Method} {c : Code} {b : Nat} {D : va_G} {cA : Nat → ClassId} {adK adV : Nat → Nat} {out : ob_S} (Cx : ob_C p R s m args meth c cb_Mo_append 3 "ObservedBlocksModel" none b D cA adK adV 0 0) : ∀ (fu : Nat), ∀ (t : ob_S) (H : Heap) (locs : List Loc) (ls : Array Slot) (v0 : Nat) (v1 : Int32) (v2 : Int32), ob_H b D cA t H → va_S (ob_A b) s.heap H locs → lv_has ls 3 [(0, .ref (b + v0)), (1, .int v1), (2, .int v2)] → B_Mo_append_2 fu v0 v1 v2 t = some out → W p l e R s m args below meth c H locs 0 0 (MQ below (ob_Qv b D cA out) args s 0 0 (ob_A b)) (F0 m 2 ls []) := by
  have hx := Cx.1.1
  have hb := Cx.1.2.1
  intro fu
  induction fu with
  | zero =>
    intro t H locs ls v0 v1 v2 hP hS hl h
    cases h
  | succ fu ih =>
    intro t H locs ls v0 v1 v2 hP hS hl h
    rw [B_Mo_append_2] at h
    refine lv_iload_n hx hb d_Mo_append_2 rfl (lv_at hl 2 rfl) ?_
    refine lv_aload_n hx hb d_Mo_append_3 rfl (lv_at hl 0 rfl) ?_
    refine ob_getI (k := 60) Cx hP ck_11 rfl w_f_Mo_185 d_Mo_append_4 h (fun x4 h => ?_)
    refine lv_icmp_ge (tgt := 53) hx hb d_Mo_append_7 (by decide) (fun hq => ?_) (fun hq => ?_)
    · rw [if_pos hq] at h
      exact ob_vret Cx hP hS d_Mo_append_53 h
    · rw [if_neg hq] at h
      refine lv_aload_n hx hb d_Mo_append_10 rfl (lv_at hl 0 rfl) ?_
      refine ob_getR (k := 26) Cx hP ck_11 rfl w_f_Mo_84 d_Mo_append_11 h (fun n11 h => ?_)
      refine lv_bipush (v := 80) hx hb d_Mo_append_14 (by decide) ?_
      refine lv_iload_n hx hb d_Mo_append_16 rfl (lv_at hl 1 rfl) ?_
      refine lv_imul hx hb d_Mo_append_17 ?_
      refine lv_aload_n hx hb d_Mo_append_18 rfl (lv_at hl 0 rfl) ?_
      refine ob_getR (k := 27) Cx hP ck_11 rfl w_f_Mo_87 d_Mo_append_19 h (fun n19 h => ?_)
      refine lv_iload_n hx hb d_Mo_append_22 rfl (lv_at hl 1 rfl) ?_
      refine ob_aldI Cx hP d_Mo_append_23 h (fun x23 h => ?_)
      refine lv_iadd hx hb d_Mo_append_24 ?_
      refine lv_aload_n hx hb d_Mo_append_25 rfl (lv_at hl 0 rfl) ?_
      refine ob_getR (k := 47) Cx hP ck_11 rfl w_f_Mo_129 d_Mo_append_26 h (fun n26 h => ?_)
      refine lv_aload_n hx hb d_Mo_append_29 rfl (lv_at hl 0 rfl) ?_
      refine ob_getI (k := 59) Cx hP ck_11 rfl w_f_Mo_203 d_Mo_append_30 h (fun x30 h => ?_)
      refine lv_iload_n hx hb d_Mo_append_33 rfl (lv_at hl 2 rfl) ?_
      refine lv_iadd hx hb d_Mo_append_34 ?_
      refine ob_aldI Cx hP d_Mo_append_35 h (fun x35 h => ?_)
      refine ob_astI Cx hP hS d_Mo_append_36 h (fun t36 H locs h hP hS => ?_)
      refine lv_aload_n hx hb d_Mo_append_37 rfl (lv_at hl 0 rfl) ?_
      refine ob_getR (k := 27) Cx hP ck_11 rfl w_f_Mo_87 d_Mo_append_38 h (fun n38 h => ?_)
      refine lv_iload_n hx hb d_Mo_append_41 rfl (lv_at hl 1 rfl) ?_
      refine lv_dup2_11 hx hb d_Mo_append_42 rfl rfl ?_
      refine ob_aldI Cx hP d_Mo_append_43 h (fun x43 h => ?_)
      refine lv_iconst (v := 1) hx hb d_Mo_append_44 (by decide) ?_
      refine lv_iadd hx hb d_Mo_append_45 ?_
      refine ob_astI Cx hP hS d_Mo_append_46 h (fun t46 H locs h hP hS => ?_)
      refine lv_iinc (v := (v2 + (1 : Int32))) (lv' := [(2, .int (v2 + (1 : Int32))), (0, .ref (b + v0)), (1, .int v1)]) hx hb d_Mo_append_47 hl (k := 2) rfl rfl (by decide) rfl (fun ls hl => ?_)
      refine lv_goto (tgt := 2) hx hb d_Mo_append_50 (by decide) ?_
      exact ih t46 H locs ls v0 v1 (v2 + (1 : Int32)) hP hS (lv_sub hl [1, 2, 0] rfl) h
theorem g_Mo_append (v0 : Nat) (v1 : Int32) {t : ob_S} {out : ob_S} (h : X_Mo_append v0 v1 t = some out) : v0 < ob_n t ∧ ob_k t v0 = 11 := by
  unfold X_Mo_append ob_this at h
  by_cases q : v0 < ob_n t ∧ ob_k t v0 = 11
  · exact q
  · rw [if_neg q] at h
    cases h
set_option maxHeartbeats 4000000 in
set_option maxRecDepth 100000 in
theorem c_Mo_append {l : Launch} {b : Nat} {D : va_G} {cA : Nat → ClassId} {adK adV : Nat → Nat} (v0 : Nat) (v1 : Int32) {t : ob_S} {out : ob_S} (h : X_Mo_append v0 v1 t = some out) : Met l y_Mo_append (Cond.code y_Mo_append cb_Mo_append 3 none :: ob_T) { frames := 0, cells := 0, slots := 0, locals := 0 } (ob_Pre b D cA adK adV [.ref (b + v0), .int v1] t) (ob_Qv b D cA out) 0 0 (ob_A b) := by
  refine ob_met (by decide) (Nat.le_of_ble_eq_true rfl) ?_
  intro p e R s m args below meth c ls Cx hP hS hl
  have hl : lv_has ls 3 [(0, .ref (b + v0)), (1, .int v1)] := hl
  have hx := Cx.1.1
  have hb := Cx.1.2.1
  have hg := g_Mo_append v0 v1 h
  unfold X_Mo_append ob_this at h
  rw [if_pos hg] at h
  obtain ⟨H, hH⟩ : ∃ H, H = s.heap := ⟨_, rfl⟩
  obtain ⟨locs, hL⟩ : ∃ locs : List Loc, locs = [] := ⟨_, rfl⟩
  rw [← hH] at hP
  have hS : va_S (ob_A b) s.heap H locs := by rw [hH, hL]; exact hS
  suffices hW : W p l e R s m args below meth c H locs 0 0 (MQ below (ob_Qv b D cA out) args s 0 0 (ob_A b)) (F0 m 0 ls []) by rw [hH, hL] at hW; exact hW
  refine lv_iconst (v := 0) hx hb d_Mo_append_0 (by decide) ?_
  refine lv_istore_n (lv' := [(2, .int (0 : Int32)), (0, .ref (b + v0)), (1, .int v1)]) hx hb d_Mo_append_1 rfl hl (by decide) rfl (fun ls hl => ?_)
  exact tB_Mo_append_2 Cx ob_fu t H locs ls v0 v1 (0 : Int32) hP hS (lv_sub hl [1, 2, 0] rfl) h
set_option maxHeartbeats 4000000 in
set_option maxRecDepth 100000 in
theorem tB_Mo_answered_170 {p : Program} {l : Launch} {e : Env} {R : Room} {s : State} {m : MethodId} {args : Array Value} {below : List Frame} {meth : Method} {c : Code} {b : Nat} {D : va_G} {cA : Nat → ClassId} {adK adV : Nat → Nat} {out : ob_S} (Cx : ob_C p R s m args meth c cb_Mo_answered 5 "ObservedBlocksModel" none b D cA adK adV 4 93) : ∀ (t : ob_S) (H : Heap) (locs : List Loc) (ls : Array Slot) (v0 : Nat) (v1 : Int32), ob_H b D cA t H → va_S (ob_A b) s.heap H locs → lv_has ls 5 [(0, .ref (b + v0)), (1, .int v1)] → B_Mo_answered_170 v0 v1 t = some out → W p l e R s m args below meth c H locs 0 0 (MQ below (ob_Qv b D cA out) args s 0 0 (ob_A b)) (F0 m 170 ls []) := by
  have hx := Cx.1.1
  have hb := Cx.1.2.1
  intro t H locs ls v0 v1 hP hS hl h
  unfold B_Mo_answered_170 at h
  refine lv_aload_n hx hb d_Mo_answered_170 rfl (lv_at hl 0 rfl) ?_
  refine ob_getI (k := 57) Cx hP ck_11 rfl w_f_Mo_169 d_Mo_answered_171 h (fun x171 h => ?_)
  refine lv_bipush (v := 8) hx hb d_Mo_answered_174 (by decide) ?_
  refine lv_idiv hx hb d_Mo_answered_176 (by decide) ?_
  refine lv_iconst (v := 2) hx hb d_Mo_answered_177 (by decide) ?_
  refine lv_irem hx hb d_Mo_answered_178 (by decide) ?_
  refine lv_iconst (v := 1) hx hb d_Mo_answered_179 (by decide) ?_
  refine lv_icmp_ne (tgt := 202) hx hb d_Mo_answered_180 (by decide) (fun hq => ?_) (fun hq => ?_)
  · rw [if_pos hq] at h
    refine lv_aload_n hx hb d_Mo_answered_202 rfl (lv_at hl 0 rfl) ?_
    refine ob_getR (k := 14) Cx hP ck_11 rfl w_f_Mo_48 d_Mo_answered_203 h (fun n203 h => ?_)
    refine lv_iload_n hx hb d_Mo_answered_206 rfl (lv_at hl 1 rfl) ?_
    refine lv_iconst (v := 2) hx hb d_Mo_answered_207 (by decide) ?_
    refine ob_astI Cx hP hS d_Mo_answered_208 h (fun t208 H locs h hP hS => ?_)
    refine lv_goto (tgt := 303) hx hb d_Mo_answered_209 (by decide) ?_
    exact ob_vret Cx hP hS d_Mo_answered_303 h
  · rw [if_neg (fun z => z hq)] at h
    refine lv_aload_n hx hb d_Mo_answered_183 rfl (lv_at hl 0 rfl) ?_
    refine ob_getR (k := 19) Cx hP ck_11 rfl w_f_Mo_63 d_Mo_answered_184 h (fun n184 h => ?_)
    refine lv_iload_n hx hb d_Mo_answered_187 rfl (lv_at hl 1 rfl) ?_
    refine lv_dup2_11 hx hb d_Mo_answered_188 rfl rfl ?_
    refine ob_aldI Cx hP d_Mo_answered_189 h (fun x189 h => ?_)
    refine lv_iconst (v := 1) hx hb d_Mo_answered_190 (by decide) ?_
    refine lv_iadd hx hb d_Mo_answered_191 ?_
    refine ob_astI Cx hP hS d_Mo_answered_192 h (fun t192 H locs h hP hS => ?_)
    refine lv_aload_n hx hb d_Mo_answered_193 rfl (lv_at hl 0 rfl) ?_
    refine lv_iload_n hx hb d_Mo_answered_194 rfl (lv_at hl 1 rfl) ?_
    refine lv_iconst (v := 0) hx hb d_Mo_answered_195 (by decide) ?_
    refine ob_cVv (nA := 2) (As := [.int v1, .int (0 : Int32)]) (rest := []) Cx hl.1 hP hS (fun o ho => c_Mo_ask v0 v1 (0 : Int32) ho) (fun o ho => g_Mo_ask v0 v1 (0 : Int32) ho) (by decide) (rfl : ob_cl[11]? = _) mv_Mo_ask w_m_Mo_229 rfl (by decide +kernel) ⟨rfl, rfl⟩ ⟨by decide, by decide⟩ (Nat.le_of_ble_eq_true rfl) rfl d_Mo_answered_196 h (fun t196 H locs h hP hS => ?_)
    refine lv_goto (tgt := 303) hx hb d_Mo_answered_199 (by decide) ?_
    exact ob_vret Cx hP hS d_Mo_answered_303 h
set_option maxHeartbeats 4000000 in
set_option maxRecDepth 100000 in
theorem tB_Mo_answered_131 {p : Program} {l : Launch} {e : Env} {R : Room} {s : State} {m : MethodId} {args : Array Value} {below : List Frame} {meth : Method} {c : Code} {b : Nat} {D : va_G} {cA : Nat → ClassId} {adK adV : Nat → Nat} {out : ob_S} (Cx : ob_C p R s m args meth c cb_Mo_answered 5 "ObservedBlocksModel" none b D cA adK adV 4 93) : ∀ (t : ob_S) (H : Heap) (locs : List Loc) (ls : Array Slot) (v0 : Nat) (v1 : Int32) (s0 : Int32) (s1 : Int32) (s2 : Nat), ob_H b D cA t H → va_S (ob_A b) s.heap H locs → lv_has ls 5 [(0, .ref (b + v0)), (1, .int v1)] → B_Mo_answered_131 v0 v1 s0 s1 s2 t = some out → W p l e R s m args below meth c H locs 0 0 (MQ below (ob_Qv b D cA out) args s 0 0 (ob_A b)) (F0 m 131 ls [.int s0, .int s1, .ref (b + s2)]) := by
  have hx := Cx.1.1
  have hb := Cx.1.2.1
  intro t H locs ls v0 v1 s0 s1 s2 hP hS hl h
  unfold B_Mo_answered_131 at h
  refine ob_astI Cx hP hS d_Mo_answered_131 h (fun t131 H locs h hP hS => ?_)
  refine lv_aload_n hx hb d_Mo_answered_132 rfl (lv_at hl 0 rfl) ?_
  refine lv_iload_n hx hb d_Mo_answered_133 rfl (lv_at hl 1 rfl) ?_
  refine ob_cVv (nA := 1) (As := [.int v1]) (rest := []) Cx hl.1 hP hS (fun o ho => c_Mo_append v0 v1 ho) (fun o ho => g_Mo_append v0 v1 ho) (by decide) (rfl : ob_cl[11]? = _) mv_Mo_append w_m_Mo_226 rfl (by decide +kernel) ⟨rfl, rfl⟩ ⟨by decide, by decide⟩ (Nat.le_of_ble_eq_true rfl) rfl d_Mo_answered_134 h (fun t134 H locs h hP hS => ?_)
  refine lv_aload_n hx hb d_Mo_answered_137 rfl (lv_at hl 0 rfl) ?_
  refine ob_getI (k := 53) Cx hP ck_11 rfl w_f_Mo_166 d_Mo_answered_138 h (fun x138 h => ?_)
  refine lv_if_lt (tgt := 170) hx hb d_Mo_answered_141 (by decide) (fun hq => ?_) (fun hq => ?_)
  · rw [if_pos hq] at h
    exact tB_Mo_answered_170 Cx t134 H locs ls v0 v1 hP hS (lv_sub hl [0, 1] rfl) h
  · rw [if_neg hq] at h
    refine lv_aload_n hx hb d_Mo_answered_144 rfl (lv_at hl 0 rfl) ?_
    refine ob_getR (k := 21) Cx hP ck_11 rfl w_f_Mo_69 d_Mo_answered_145 h (fun n145 h => ?_)
    refine lv_iload_n hx hb d_Mo_answered_148 rfl (lv_at hl 1 rfl) ?_
    refine ob_aldZ Cx hP d_Mo_answered_149 h (fun x149 h => ?_)
    refine lv_if_eq (tgt := 170) hx hb d_Mo_answered_150 (by decide) (fun hq => ?_) (fun hq => ?_)
    · rw [if_pos hq] at h
      exact tB_Mo_answered_170 Cx t134 H locs ls v0 v1 hP hS (lv_sub hl [0, 1] rfl) h
    · rw [if_neg hq] at h
      refine lv_aload_n hx hb d_Mo_answered_153 rfl (lv_at hl 0 rfl) ?_
      refine ob_getR (k := 22) Cx hP ck_11 rfl w_f_Mo_72 d_Mo_answered_154 h (fun n154 h => ?_)
      refine lv_iload_n hx hb d_Mo_answered_157 rfl (lv_at hl 1 rfl) ?_
      refine lv_iconst (v := 1) hx hb d_Mo_answered_158 (by decide) ?_
      refine ob_astZ Cx hP hS d_Mo_answered_159 h (fun t159 H locs h hP hS => ?_)
      refine lv_aload_n hx hb d_Mo_answered_160 rfl (lv_at hl 0 rfl) ?_
      refine ob_getR (k := 23) Cx hP ck_11 rfl w_f_Mo_75 d_Mo_answered_161 h (fun n161 h => ?_)
      refine lv_iload_n hx hb d_Mo_answered_164 rfl (lv_at hl 1 rfl) ?_
      refine lv_aload_n hx hb d_Mo_answered_165 rfl (lv_at hl 0 rfl) ?_
      refine ob_getI (k := 53) Cx hP ck_11 rfl w_f_Mo_166 d_Mo_answered_166 h (fun x166 h => ?_)
      refine ob_astI Cx hP hS d_Mo_answered_169 h (fun t169 H locs h hP hS => ?_)
      exact tB_Mo_answered_170 Cx t169 H locs ls v0 v1 hP hS (lv_sub hl [0, 1] rfl) h
set_option maxHeartbeats 4000000 in
set_option maxRecDepth 100000 in
theorem tB_Mo_answered_286 {p : Program} {l : Launch} {e : Env} {R : Room} {s : State} {m : MethodId} {args : Array Value} {below : List Frame} {meth : Method} {c : Code} {b : Nat} {D : va_G} {cA : Nat → ClassId} {adK adV : Nat → Nat} {out : ob_S} (Cx : ob_C p R s m args meth c cb_Mo_answered 5 "ObservedBlocksModel" none b D cA adK adV 4 93) : ∀ (t : ob_S) (H : Heap) (locs : List Loc) (ls : Array Slot) (v0 : Nat) (v1 : Int32), ob_H b D cA t H → va_S (ob_A b) s.heap H locs → lv_has ls 5 [(0, .ref (b + v0)), (1, .int v1)] → B_Mo_answered_286 v0 v1 t = some out → W p l e R s m args below meth c H locs 0 0 (MQ below (ob_Qv b D cA out) args s 0 0 (ob_A b)) (F0 m 286 ls []) := by
  have hx := Cx.1.1
  have hb := Cx.1.2.1
  intro t H locs ls v0 v1 hP hS hl h
  unfold B_Mo_answered_286 at h
  refine lv_aload_n hx hb d_Mo_answered_286 rfl (lv_at hl 0 rfl) ?_
  refine ob_getR (k := 14) Cx hP ck_11 rfl w_f_Mo_48 d_Mo_answered_287 h (fun n287 h => ?_)
  refine lv_iload_n hx hb d_Mo_answered_290 rfl (lv_at hl 1 rfl) ?_
  refine lv_iconst (v := 4) hx hb d_Mo_answered_291 (by decide) ?_
  refine ob_astI Cx hP hS d_Mo_answered_292 h (fun t292 H locs h hP hS => ?_)
  refine lv_aload_n hx hb d_Mo_answered_293 rfl (lv_at hl 0 rfl) ?_
  refine ob_getR (k := 24) Cx hP ck_11 rfl w_f_Mo_78 d_Mo_answered_294 h (fun n294 h => ?_)
  refine lv_iload_n hx hb d_Mo_answered_297 rfl (lv_at hl 1 rfl) ?_
  refine lv_aload_n hx hb d_Mo_answered_298 rfl (lv_at hl 0 rfl) ?_
  refine ob_getI (k := 50) Cx hP ck_11 rfl w_f_Mo_194 d_Mo_answered_299 h (fun x299 h => ?_)
  refine ob_astI Cx hP hS d_Mo_answered_302 h (fun t302 H locs h hP hS => ?_)
  exact ob_vret Cx hP hS d_Mo_answered_303 h
set_option maxHeartbeats 4000000 in
set_option maxRecDepth 100000 in
theorem tB_Mo_answered_258 {p : Program} {l : Launch} {e : Env} {R : Room} {s : State} {m : MethodId} {args : Array Value} {below : List Frame} {meth : Method} {c : Code} {b : Nat} {D : va_G} {cA : Nat → ClassId} {adK adV : Nat → Nat} {out : ob_S} (Cx : ob_C p R s m args meth c cb_Mo_answered 5 "ObservedBlocksModel" none b D cA adK adV 4 93) : ∀ (t : ob_S) (H : Heap) (locs : List Loc) (ls : Array Slot) (v0 : Nat) (v1 : Int32), ob_H b D cA t H → va_S (ob_A b) s.heap H locs → lv_has ls 5 [(0, .ref (b + v0)), (1, .int v1)] → B_Mo_answered_258 v0 v1 t = some out → W p l e R s m args below meth c H locs 0 0 (MQ below (ob_Qv b D cA out) args s 0 0 (ob_A b)) (F0 m 258 ls []) := by
  have hx := Cx.1.1
  have hb := Cx.1.2.1
  intro t H locs ls v0 v1 hP hS hl h
  unfold B_Mo_answered_258 at h
  refine lv_aload_n hx hb d_Mo_answered_258 rfl (lv_at hl 0 rfl) ?_
  refine ob_getI (k := 50) Cx hP ck_11 rfl w_f_Mo_194 d_Mo_answered_259 h (fun x259 h => ?_)
  refine lv_bipush (v := 68) hx hb d_Mo_answered_262 (by decide) ?_
  refine lv_icmp_ne (tgt := 286) hx hb d_Mo_answered_264 (by decide) (fun hq => ?_) (fun hq => ?_)
  · rw [if_pos hq] at h
    exact tB_Mo_answered_286 Cx t H locs ls v0 v1 hP hS (lv_sub hl [0, 1] rfl) h
  · rw [if_neg (fun z => z hq)] at h
    refine lv_aload_n hx hb d_Mo_answered_267 rfl (lv_at hl 0 rfl) ?_
    refine ob_getR (k := 20) Cx hP ck_11 rfl w_f_Mo_66 d_Mo_answered_268 h (fun n268 h => ?_)
    refine lv_iload_n hx hb d_Mo_answered_271 rfl (lv_at hl 1 rfl) ?_
    refine ob_aldZ Cx hP d_Mo_answered_272 h (fun x272 h => ?_)
    refine lv_if_eq (tgt := 286) hx hb d_Mo_answered_273 (by decide) (fun hq => ?_) (fun hq => ?_)
    · rw [if_pos hq] at h
      exact tB_Mo_answered_286 Cx t H locs ls v0 v1 hP hS (lv_sub hl [0, 1] rfl) h
    · rw [if_neg hq] at h
      refine lv_aload_n hx hb d_Mo_answered_276 rfl (lv_at hl 0 rfl) ?_
      refine ob_getR (k := 14) Cx hP ck_11 rfl w_f_Mo_48 d_Mo_answered_277 h (fun n277 h => ?_)
      refine lv_iload_n hx hb d_Mo_answered_280 rfl (lv_at hl 1 rfl) ?_
      refine lv_iconst (v := 2) hx hb d_Mo_answered_281 (by decide) ?_
      refine ob_astI Cx hP hS d_Mo_answered_282 h (fun t282 H locs h hP hS => ?_)
      refine lv_goto (tgt := 303) hx hb d_Mo_answered_283 (by decide) ?_
      exact ob_vret Cx hP hS d_Mo_answered_303 h
set_option maxHeartbeats 4000000 in
set_option maxRecDepth 100000 in
theorem tB_Mo_answered_212 {p : Program} {l : Launch} {e : Env} {R : Room} {s : State} {m : MethodId} {args : Array Value} {below : List Frame} {meth : Method} {c : Code} {b : Nat} {D : va_G} {cA : Nat → ClassId} {adK adV : Nat → Nat} {out : ob_S} (Cx : ob_C p R s m args meth c cb_Mo_answered 5 "ObservedBlocksModel" none b D cA adK adV 4 93) : ∀ (t : ob_S) (H : Heap) (locs : List Loc) (ls : Array Slot) (v0 : Nat) (v1 : Int32), ob_H b D cA t H → va_S (ob_A b) s.heap H locs → lv_has ls 5 [(0, .ref (b + v0)), (1, .int v1)] → B_Mo_answered_212 v0 v1 t = some out → W p l e R s m args below meth c H locs 0 0 (MQ below (ob_Qv b D cA out) args s 0 0 (ob_A b)) (F0 m 212 ls []) := by
  have hx := Cx.1.1
  have hb := Cx.1.2.1
  intro t H locs ls v0 v1 hP hS hl h
  unfold B_Mo_answered_212 at h
  refine lv_aload_n hx hb d_Mo_answered_212 rfl (lv_at hl 0 rfl) ?_
  refine ob_getI (k := 50) Cx hP ck_11 rfl w_f_Mo_194 d_Mo_answered_213 h (fun x213 h => ?_)
  refine lv_bipush (v := 95) hx hb d_Mo_answered_216 (by decide) ?_
  refine lv_icmp_ne (tgt := 258) hx hb d_Mo_answered_218 (by decide) (fun hq => ?_) (fun hq => ?_)
  · rw [if_pos hq] at h
    exact tB_Mo_answered_258 Cx t H locs ls v0 v1 hP hS (lv_sub hl [0, 1] rfl) h
  · rw [if_neg (fun z => z hq)] at h
    refine lv_aload_n hx hb d_Mo_answered_221 rfl (lv_at hl 0 rfl) ?_
    refine ob_getR (k := 20) Cx hP ck_11 rfl w_f_Mo_66 d_Mo_answered_222 h (fun n222 h => ?_)
    refine lv_iload_n hx hb d_Mo_answered_225 rfl (lv_at hl 1 rfl) ?_
    refine ob_aldZ Cx hP d_Mo_answered_226 h (fun x226 h => ?_)
    refine lv_if_eq (tgt := 258) hx hb d_Mo_answered_227 (by decide) (fun hq => ?_) (fun hq => ?_)
    · rw [if_pos hq] at h
      exact tB_Mo_answered_258 Cx t H locs ls v0 v1 hP hS (lv_sub hl [0, 1] rfl) h
    · rw [if_neg hq] at h
      refine lv_aload_n hx hb d_Mo_answered_230 rfl (lv_at hl 0 rfl) ?_
      refine ob_getR (k := 25) Cx hP ck_11 rfl w_f_Mo_81 d_Mo_answered_231 h (fun n231 h => ?_)
      refine lv_iload_n hx hb d_Mo_answered_234 rfl (lv_at hl 1 rfl) ?_
      refine ob_aldZ Cx hP d_Mo_answered_235 h (fun x235 h => ?_)
      refine lv_if_eq (tgt := 258) hx hb d_Mo_answered_236 (by decide) (fun hq => ?_) (fun hq => ?_)
      · rw [if_pos hq] at h
        exact tB_Mo_answered_258 Cx t H locs ls v0 v1 hP hS (lv_sub hl [0, 1] rfl) h
      · rw [if_neg hq] at h
        refine lv_aload_n hx hb d_Mo_answered_239 rfl (lv_at hl 0 rfl) ?_
        refine ob_getR (k := 19) Cx hP ck_11 rfl w_f_Mo_63 d_Mo_answered_240 h (fun n240 h => ?_)
        refine lv_iload_n hx hb d_Mo_answered_243 rfl (lv_at hl 1 rfl) ?_
        refine lv_dup2_11 hx hb d_Mo_answered_244 rfl rfl ?_
        refine ob_aldI Cx hP d_Mo_answered_245 h (fun x245 h => ?_)
        refine lv_iconst (v := 1) hx hb d_Mo_answered_246 (by decide) ?_
        refine lv_iadd hx hb d_Mo_answered_247 ?_
        refine ob_astI Cx hP hS d_Mo_answered_248 h (fun t248 H locs h hP hS => ?_)
        refine lv_aload_n hx hb d_Mo_answered_249 rfl (lv_at hl 0 rfl) ?_
        refine lv_iload_n hx hb d_Mo_answered_250 rfl (lv_at hl 1 rfl) ?_
        refine lv_iconst (v := 0) hx hb d_Mo_answered_251 (by decide) ?_
        refine ob_cVv (nA := 2) (As := [.int v1, .int (0 : Int32)]) (rest := []) Cx hl.1 hP hS (fun o ho => c_Mo_ask v0 v1 (0 : Int32) ho) (fun o ho => g_Mo_ask v0 v1 (0 : Int32) ho) (by decide) (rfl : ob_cl[11]? = _) mv_Mo_ask w_m_Mo_229 rfl (by decide +kernel) ⟨rfl, rfl⟩ ⟨by decide, by decide⟩ (Nat.le_of_ble_eq_true rfl) rfl d_Mo_answered_252 h (fun t252 H locs h hP hS => ?_)
        refine lv_goto (tgt := 303) hx hb d_Mo_answered_255 (by decide) ?_
        exact ob_vret Cx hP hS d_Mo_answered_303 h
set_option maxHeartbeats 4000000 in
set_option maxRecDepth 100000 in
theorem tB_Mo_answered_70 {p : Program} {l : Launch} {e : Env} {R : Room} {s : State} {m : MethodId} {args : Array Value} {below : List Frame} {meth : Method} {c : Code} {b : Nat} {D : va_G} {cA : Nat → ClassId} {adK adV : Nat → Nat} {out : ob_S} (Cx : ob_C p R s m args meth c cb_Mo_answered 5 "ObservedBlocksModel" none b D cA adK adV 4 93) : ∀ (t : ob_S) (H : Heap) (locs : List Loc) (ls : Array Slot) (v0 : Nat) (v1 : Int32) (v3 : Int32) (s0 : Int32), ob_H b D cA t H → va_S (ob_A b) s.heap H locs → lv_has ls 5 [(0, .ref (b + v0)), (1, .int v1), (3, .int v3)] → B_Mo_answered_70 v0 v1 v3 s0 t = some out → W p l e R s m args below meth c H locs 0 0 (MQ below (ob_Qv b D cA out) args s 0 0 (ob_A b)) (F0 m 70 ls [.int s0]) := by
  have hx := Cx.1.1
  have hb := Cx.1.2.1
  intro t H locs ls v0 v1 v3 s0 hP hS hl h
  unfold B_Mo_answered_70 at h
  refine lv_istore (lv' := [(4, .int s0), (0, .ref (b + v0)), (1, .int v1), (3, .int v3)]) hx hb d_Mo_answered_70 hl (by decide) rfl (fun ls hl => ?_)
  refine lv_aload_n hx hb d_Mo_answered_72 rfl (lv_at hl 1 rfl) ?_
  refine ob_getI (k := 50) Cx hP ck_11 rfl w_f_Mo_194 d_Mo_answered_73 h (fun x73 h => ?_)
  refine lv_bipush (v := 69) hx hb d_Mo_answered_76 (by decide) ?_
  refine lv_icmp_ne (tgt := 212) hx hb d_Mo_answered_78 (by decide) (fun hq => ?_) (fun hq => ?_)
  · rw [if_pos hq] at h
    exact tB_Mo_answered_212 Cx t H locs ls v0 v1 hP hS (lv_sub hl [1, 2] rfl) h
  · rw [if_neg (fun z => z hq)] at h
    refine lv_aload_n hx hb d_Mo_answered_81 rfl (lv_at hl 1 rfl) ?_
    refine ob_getR (k := 20) Cx hP ck_11 rfl w_f_Mo_66 d_Mo_answered_82 h (fun n82 h => ?_)
    refine lv_iload_n hx hb d_Mo_answered_85 rfl (lv_at hl 2 rfl) ?_
    refine ob_aldZ Cx hP d_Mo_answered_86 h (fun x86 h => ?_)
    refine lv_if_ne (tgt := 212) hx hb d_Mo_answered_87 (by decide) (fun hq => ?_) (fun hq => ?_)
    · rw [if_pos hq] at h
      exact tB_Mo_answered_212 Cx t H locs ls v0 v1 hP hS (lv_sub hl [1, 2] rfl) h
    · rw [if_neg (fun z => z hq)] at h
      refine lv_iload hx hb d_Mo_answered_90 (lv_at hl 0 rfl) ?_
      refine lv_if_eq (tgt := 212) hx hb d_Mo_answered_92 (by decide) (fun hq => ?_) (fun hq => ?_)
      · rw [if_pos hq] at h
        exact tB_Mo_answered_212 Cx t H locs ls v0 v1 hP hS (lv_sub hl [1, 2] rfl) h
      · rw [if_neg hq] at h
        refine lv_iload_n hx hb d_Mo_answered_95 rfl (lv_at hl 3 rfl) ?_
        refine lv_aload_n hx hb d_Mo_answered_96 rfl (lv_at hl 1 rfl) ?_
        refine ob_getI (k := 60) Cx hP ck_11 rfl w_f_Mo_185 d_Mo_answered_97 h (fun x97 h => ?_)
        refine lv_iadd hx hb d_Mo_answered_100 ?_
        refine lv_bipush (v := 64) hx hb d_Mo_answered_101 (by decide) ?_
        refine lv_icmp_gt (tgt := 212) hx hb d_Mo_answered_103 (by decide) (fun hq => ?_) (fun hq => ?_)
        · rw [if_pos hq] at h
          exact tB_Mo_answered_212 Cx t H locs ls v0 v1 hP hS (lv_sub hl [1, 2] rfl) h
        · rw [if_neg hq] at h
          refine lv_aload_n hx hb d_Mo_answered_106 rfl (lv_at hl 1 rfl) ?_
          refine ob_getR (k := 27) Cx hP ck_11 rfl w_f_Mo_87 d_Mo_answered_107 h (fun n107 h => ?_)
          refine lv_iload_n hx hb d_Mo_answered_110 rfl (lv_at hl 2 rfl) ?_
          refine lv_aload_n hx hb d_Mo_answered_111 rfl (lv_at hl 1 rfl) ?_
          refine ob_getR (k := 27) Cx hP ck_11 rfl w_f_Mo_87 d_Mo_answered_112 h (fun n112 h => ?_)
          refine lv_iload_n hx hb d_Mo_answered_115 rfl (lv_at hl 2 rfl) ?_
          refine ob_aldI Cx hP d_Mo_answered_116 h (fun x116 h => ?_)
          refine lv_iload_n hx hb d_Mo_answered_117 rfl (lv_at hl 3 rfl) ?_
          refine lv_icmp_le (tgt := 125) hx hb d_Mo_answered_118 (by decide) (fun hq => ?_) (fun hq => ?_)
          · rw [if_pos hq] at h
            refine lv_aload_n hx hb d_Mo_answered_125 rfl (lv_at hl 1 rfl) ?_
            refine ob_getR (k := 27) Cx hP ck_11 rfl w_f_Mo_87 d_Mo_answered_126 h (fun n126 h => ?_)
            refine lv_iload_n hx hb d_Mo_answered_129 rfl (lv_at hl 2 rfl) ?_
            refine ob_aldI Cx hP d_Mo_answered_130 h (fun x130 h => ?_)
            exact tB_Mo_answered_131 Cx t H locs ls v0 v1 x130 v1 n107 hP hS (lv_sub hl [1, 2] rfl) h
          · rw [if_neg hq] at h
            refine lv_iload_n hx hb d_Mo_answered_121 rfl (lv_at hl 3 rfl) ?_
            refine lv_goto (tgt := 131) hx hb d_Mo_answered_122 (by decide) ?_
            exact tB_Mo_answered_131 Cx t H locs ls v0 v1 v3 v1 n107 hP hS (lv_sub hl [1, 2] rfl) h
set_option maxHeartbeats 4000000 in
set_option maxRecDepth 100000 in
theorem tB_Mo_answered_69 {p : Program} {l : Launch} {e : Env} {R : Room} {s : State} {m : MethodId} {args : Array Value} {below : List Frame} {meth : Method} {c : Code} {b : Nat} {D : va_G} {cA : Nat → ClassId} {adK adV : Nat → Nat} {out : ob_S} (Cx : ob_C p R s m args meth c cb_Mo_answered 5 "ObservedBlocksModel" none b D cA adK adV 4 93) : ∀ (t : ob_S) (H : Heap) (locs : List Loc) (ls : Array Slot) (v0 : Nat) (v1 : Int32) (v3 : Int32), ob_H b D cA t H → va_S (ob_A b) s.heap H locs → lv_has ls 5 [(0, .ref (b + v0)), (1, .int v1), (3, .int v3)] → B_Mo_answered_69 v0 v1 v3 t = some out → W p l e R s m args below meth c H locs 0 0 (MQ below (ob_Qv b D cA out) args s 0 0 (ob_A b)) (F0 m 69 ls []) := by
  have hx := Cx.1.1
  have hb := Cx.1.2.1
  intro t H locs ls v0 v1 v3 hP hS hl h
  unfold B_Mo_answered_69 at h
  refine lv_iconst (v := 0) hx hb d_Mo_answered_69 (by decide) ?_
  exact tB_Mo_answered_70 Cx t H locs ls v0 v1 v3 (0 : Int32) hP hS (lv_sub hl [0, 1, 2] rfl) h
theorem g_Mo_answered (v0 : Nat) (v1 : Int32) {t : ob_S} {out : ob_S} (h : X_Mo_answered v0 v1 t = some out) : v0 < ob_n t ∧ ob_k t v0 = 11 := by
  unfold X_Mo_answered ob_this at h
  by_cases q : v0 < ob_n t ∧ ob_k t v0 = 11
  · exact q
  · rw [if_neg q] at h
    cases h
set_option maxHeartbeats 4000000 in
set_option maxRecDepth 100000 in
theorem c_Mo_answered {l : Launch} {b : Nat} {D : va_G} {cA : Nat → ClassId} {adK adV : Nat → Nat} (v0 : Nat) (v1 : Int32) {t : ob_S} {out : ob_S} (h : X_Mo_answered v0 v1 t = some out) : Met l y_Mo_answered (Cond.code y_Mo_answered cb_Mo_answered 5 none :: ob_T) { frames := 4, cells := 0, slots := 0, locals := 93 } (ob_Pre b D cA adK adV [.ref (b + v0), .int v1] t) (ob_Qv b D cA out) 0 0 (ob_A b) := by
  refine ob_met (by decide) (Nat.le_of_ble_eq_true rfl) ?_
  intro p e R s m args below meth c ls Cx hP hS hl
  have hl : lv_has ls 5 [(0, .ref (b + v0)), (1, .int v1)] := hl
  have hx := Cx.1.1
  have hb := Cx.1.2.1
  have hg := g_Mo_answered v0 v1 h
  unfold X_Mo_answered ob_this at h
  rw [if_pos hg] at h
  obtain ⟨H, hH⟩ : ∃ H, H = s.heap := ⟨_, rfl⟩
  obtain ⟨locs, hL⟩ : ∃ locs : List Loc, locs = [] := ⟨_, rfl⟩
  rw [← hH] at hP
  have hS : va_S (ob_A b) s.heap H locs := by rw [hH, hL]; exact hS
  suffices hW : W p l e R s m args below meth c H locs 0 0 (MQ below (ob_Qv b D cA out) args s 0 0 (ob_A b)) (F0 m 0 ls []) by rw [hH, hL] at hW; exact hW
  refine lv_aload_n hx hb d_Mo_answered_0 rfl (lv_at hl 0 rfl) ?_
  refine ob_getR (k := 7) Cx hP ck_11 rfl w_f_Mo_26 d_Mo_answered_1 h (fun n1 h => ?_)
  refine lv_iload_n hx hb d_Mo_answered_4 rfl (lv_at hl 1 rfl) ?_
  refine lv_iconst (v := 0) hx hb d_Mo_answered_5 (by decide) ?_
  refine ob_astZ Cx hP hS d_Mo_answered_6 h (fun t6 H locs h hP hS => ?_)
  refine lv_aload_n hx hb d_Mo_answered_7 rfl (lv_at hl 0 rfl) ?_
  refine ob_getR (k := 18) Cx hP ck_11 rfl w_f_Mo_60 d_Mo_answered_8 h (fun n8 h => ?_)
  refine lv_iload_n hx hb d_Mo_answered_11 rfl (lv_at hl 1 rfl) ?_
  refine ob_aldI Cx hP d_Mo_answered_12 h (fun x12 h => ?_)
  refine ob_cSi (nA := 1) (As := [.int x12]) (rest := []) Cx hl.1 hP hS (fun o ho => c_Mo_sizeOf x12 ho) ms_Mo_sizeOf w_m_Mo_152 rfl (by decide +kernel) ⟨rfl, rfl⟩ ⟨by decide, by decide⟩ (Nat.le_of_ble_eq_true rfl) rfl d_Mo_answered_13 h (fun x13 t13 H locs h hP hS => ?_)
  refine lv_istore_n (lv' := [(2, .int x13), (0, .ref (b + v0)), (1, .int v1)]) hx hb d_Mo_answered_16 rfl hl (by decide) rfl (fun ls hl => ?_)
  refine lv_aload_n hx hb d_Mo_answered_17 rfl (lv_at hl 1 rfl) ?_
  refine ob_getR (k := 19) Cx hP ck_11 rfl w_f_Mo_63 d_Mo_answered_18 h (fun n18 h => ?_)
  refine lv_iload_n hx hb d_Mo_answered_21 rfl (lv_at hl 2 rfl) ?_
  refine ob_aldI Cx hP d_Mo_answered_22 h (fun x22 h => ?_)
  refine lv_iload_n hx hb d_Mo_answered_23 rfl (lv_at hl 0 rfl) ?_
  refine lv_imul hx hb d_Mo_answered_24 ?_
  refine lv_istore_n (lv' := [(3, .int (x22 * x13)), (2, .int x13), (0, .ref (b + v0)), (1, .int v1)]) hx hb d_Mo_answered_25 rfl hl (by decide) rfl (fun ls hl => ?_)
  refine lv_aload_n hx hb d_Mo_answered_26 rfl (lv_at hl 2 rfl) ?_
  refine ob_getI (k := 57) Cx hP ck_11 rfl w_f_Mo_169 d_Mo_answered_27 h (fun x27 h => ?_)
  refine lv_if_lt (tgt := 69) hx hb d_Mo_answered_30 (by decide) (fun hq => ?_) (fun hq => ?_)
  · rw [if_pos hq] at h
    exact tB_Mo_answered_69 Cx t13 H locs ls v0 v1 (x22 * x13) hP hS (lv_sub hl [2, 3, 0] rfl) h
  · rw [if_neg hq] at h
    refine lv_aload_n hx hb d_Mo_answered_33 rfl (lv_at hl 2 rfl) ?_
    refine ob_getI (k := 57) Cx hP ck_11 rfl w_f_Mo_169 d_Mo_answered_34 h (fun x34 h => ?_)
    refine lv_bipush (v := 16) hx hb d_Mo_answered_37 (by decide) ?_
    refine lv_idiv hx hb d_Mo_answered_39 (by decide) ?_
    refine lv_aload_n hx hb d_Mo_answered_40 rfl (lv_at hl 2 rfl) ?_
    refine ob_getR (k := 19) Cx hP ck_11 rfl w_f_Mo_63 d_Mo_answered_41 h (fun n41 h => ?_)
    refine lv_iload_n hx hb d_Mo_answered_44 rfl (lv_at hl 3 rfl) ?_
    refine ob_aldI Cx hP d_Mo_answered_45 h (fun x45 h => ?_)
    refine lv_icmp_ne (tgt := 69) hx hb d_Mo_answered_46 (by decide) (fun hq => ?_) (fun hq => ?_)
    · rw [if_pos hq] at h
      exact tB_Mo_answered_69 Cx t13 H locs ls v0 v1 (x22 * x13) hP hS (lv_sub hl [2, 3, 0] rfl) h
    · rw [if_neg (fun z => z hq)] at h
      refine lv_aload_n hx hb d_Mo_answered_49 rfl (lv_at hl 2 rfl) ?_
      refine ob_getI (k := 57) Cx hP ck_11 rfl w_f_Mo_169 d_Mo_answered_50 h (fun x50 h => ?_)
      refine lv_bipush (v := 8) hx hb d_Mo_answered_53 (by decide) ?_
      refine lv_irem hx hb d_Mo_answered_55 (by decide) ?_
      refine lv_aload_n hx hb d_Mo_answered_56 rfl (lv_at hl 2 rfl) ?_
      refine ob_getR (k := 18) Cx hP ck_11 rfl w_f_Mo_60 d_Mo_answered_57 h (fun n57 h => ?_)
      refine lv_iload_n hx hb d_Mo_answered_60 rfl (lv_at hl 3 rfl) ?_
      refine ob_aldI Cx hP d_Mo_answered_61 h (fun x61 h => ?_)
      refine lv_icmp_ne (tgt := 69) hx hb d_Mo_answered_62 (by decide) (fun hq => ?_) (fun hq => ?_)
      · rw [if_pos hq] at h
        exact tB_Mo_answered_69 Cx t13 H locs ls v0 v1 (x22 * x13) hP hS (lv_sub hl [2, 3, 0] rfl) h
      · rw [if_neg (fun z => z hq)] at h
        refine lv_iconst (v := 1) hx hb d_Mo_answered_65 (by decide) ?_
        refine lv_goto (tgt := 70) hx hb d_Mo_answered_66 (by decide) ?_
        exact tB_Mo_answered_70 Cx t13 H locs ls v0 v1 (x22 * x13) (1 : Int32) hP hS (lv_sub hl [2, 3, 0] rfl) h
set_option maxHeartbeats 4000000 in
set_option maxRecDepth 100000 in
theorem tB_Mo_told_52 {p : Program} {l : Launch} {e : Env} {R : Room} {s : State} {m : MethodId} {args : Array Value} {below : List Frame} {meth : Method} {c : Code} {b : Nat} {D : va_G} {cA : Nat → ClassId} {adK adV : Nat → Nat} {out : ob_S} (Cx : ob_C p R s m args meth c cb_Mo_told 4 "ObservedBlocksModel" none b D cA adK adV 4 93) : ∀ (t : ob_S) (H : Heap) (locs : List Loc) (ls : Array Slot) (v0 : Nat) (v1 : Int32) (s0 : Int32), ob_H b D cA t H → va_S (ob_A b) s.heap H locs → lv_has ls 4 [(0, .ref (b + v0)), (1, .int v1)] → B_Mo_told_52 v0 v1 s0 t = some out → W p l e R s m args below meth c H locs 0 0 (MQ below (ob_Qv b D cA out) args s 0 0 (ob_A b)) (F0 m 52 ls [.int s0]) := by
  have hx := Cx.1.1
  have hb := Cx.1.2.1
  intro t H locs ls v0 v1 s0 hP hS hl h
  unfold B_Mo_told_52 at h
  refine lv_istore_n (lv' := [(3, .int s0), (0, .ref (b + v0)), (1, .int v1)]) hx hb d_Mo_told_52 rfl hl (by decide) rfl (fun ls hl => ?_)
  refine lv_iload_n hx hb d_Mo_told_53 rfl (lv_at hl 0 rfl) ?_
  refine lv_if_eq (tgt := 90) hx hb d_Mo_told_54 (by decide) (fun hq => ?_) (fun hq => ?_)
  · rw [if_pos hq] at h
    exact ob_vret Cx hP hS d_Mo_told_90 h
  · rw [if_neg hq] at h
    refine lv_aload_n hx hb d_Mo_told_57 rfl (lv_at hl 1 rfl) ?_
    refine ob_getI (k := 57) Cx hP ck_11 rfl w_f_Mo_169 d_Mo_told_58 h (fun x58 h => ?_)
    refine lv_if_lt (tgt := 90) hx hb d_Mo_told_61 (by decide) (fun hq => ?_) (fun hq => ?_)
    · rw [if_pos hq] at h
      exact ob_vret Cx hP hS d_Mo_told_90 h
    · rw [if_neg hq] at h
      refine lv_aload_n hx hb d_Mo_told_64 rfl (lv_at hl 1 rfl) ?_
      refine ob_getI (k := 57) Cx hP ck_11 rfl w_f_Mo_169 d_Mo_told_65 h (fun x65 h => ?_)
      refine lv_bipush (v := 16) hx hb d_Mo_told_68 (by decide) ?_
      refine lv_idiv hx hb d_Mo_told_70 (by decide) ?_
      refine lv_if_ne (tgt := 90) hx hb d_Mo_told_71 (by decide) (fun hq => ?_) (fun hq => ?_)
      · rw [if_pos hq] at h
        exact ob_vret Cx hP hS d_Mo_told_90 h
      · rw [if_neg (fun z => z hq)] at h
        refine lv_aload_n hx hb d_Mo_told_74 rfl (lv_at hl 1 rfl) ?_
        refine ob_getI (k := 57) Cx hP ck_11 rfl w_f_Mo_169 d_Mo_told_75 h (fun x75 h => ?_)
        refine lv_bipush (v := 8) hx hb d_Mo_told_78 (by decide) ?_
        refine lv_irem hx hb d_Mo_told_80 (by decide) ?_
        refine lv_aload_n hx hb d_Mo_told_81 rfl (lv_at hl 1 rfl) ?_
        refine ob_getR (k := 18) Cx hP ck_11 rfl w_f_Mo_60 d_Mo_told_82 h (fun n82 h => ?_)
        refine lv_iload_n hx hb d_Mo_told_85 rfl (lv_at hl 2 rfl) ?_
        refine ob_aldI Cx hP d_Mo_told_86 h (fun x86 h => ?_)
        refine lv_icmp_eq (tgt := 91) hx hb d_Mo_told_87 (by decide) (fun hq => ?_) (fun hq => ?_)
        · rw [if_pos hq] at h
          refine lv_aload_n hx hb d_Mo_told_91 rfl (lv_at hl 1 rfl) ?_
          refine ob_getR (k := 23) Cx hP ck_11 rfl w_f_Mo_75 d_Mo_told_92 h (fun n92 h => ?_)
          refine lv_iload_n hx hb d_Mo_told_95 rfl (lv_at hl 2 rfl) ?_
          refine lv_aload_n hx hb d_Mo_told_96 rfl (lv_at hl 1 rfl) ?_
          refine ob_getI (k := 53) Cx hP ck_11 rfl w_f_Mo_166 d_Mo_told_97 h (fun x97 h => ?_)
          refine ob_astI Cx hP hS d_Mo_told_100 h (fun t100 H locs h hP hS => ?_)
          refine lv_aload_n hx hb d_Mo_told_101 rfl (lv_at hl 1 rfl) ?_
          refine ob_getR (k := 7) Cx hP ck_11 rfl w_f_Mo_26 d_Mo_told_102 h (fun n102 h => ?_)
          refine lv_iload_n hx hb d_Mo_told_105 rfl (lv_at hl 2 rfl) ?_
          refine lv_iconst (v := 0) hx hb d_Mo_told_106 (by decide) ?_
          refine ob_astZ Cx hP hS d_Mo_told_107 h (fun t107 H locs h hP hS => ?_)
          refine lv_aload_n hx hb d_Mo_told_108 rfl (lv_at hl 1 rfl) ?_
          refine ob_getR (k := 27) Cx hP ck_11 rfl w_f_Mo_87 d_Mo_told_109 h (fun n109 h => ?_)
          refine lv_iload_n hx hb d_Mo_told_112 rfl (lv_at hl 2 rfl) ?_
          refine lv_iconst (v := 0) hx hb d_Mo_told_113 (by decide) ?_
          refine ob_astI Cx hP hS d_Mo_told_114 h (fun t114 H locs h hP hS => ?_)
          refine lv_aload_n hx hb d_Mo_told_115 rfl (lv_at hl 1 rfl) ?_
          refine lv_iload_n hx hb d_Mo_told_116 rfl (lv_at hl 2 rfl) ?_
          refine ob_cVv (nA := 1) (As := [.int v1]) (rest := []) Cx hl.1 hP hS (fun o ho => c_Mo_append v0 v1 ho) (fun o ho => g_Mo_append v0 v1 ho) (by decide) (rfl : ob_cl[11]? = _) mv_Mo_append w_m_Mo_226 rfl (by decide +kernel) ⟨rfl, rfl⟩ ⟨by decide, by decide⟩ (Nat.le_of_ble_eq_true rfl) rfl d_Mo_told_117 h (fun t117 H locs h hP hS => ?_)
          refine lv_aload_n hx hb d_Mo_told_120 rfl (lv_at hl 1 rfl) ?_
          refine ob_getR (k := 19) Cx hP ck_11 rfl w_f_Mo_63 d_Mo_told_121 h (fun n121 h => ?_)
          refine lv_iload_n hx hb d_Mo_told_124 rfl (lv_at hl 2 rfl) ?_
          refine lv_iconst (v := 0) hx hb d_Mo_told_125 (by decide) ?_
          refine ob_astI Cx hP hS d_Mo_told_126 h (fun t126 H locs h hP hS => ?_)
          refine lv_aload_n hx hb d_Mo_told_127 rfl (lv_at hl 1 rfl) ?_
          refine ob_getI (k := 57) Cx hP ck_11 rfl w_f_Mo_169 d_Mo_told_128 h (fun x128 h => ?_)
          refine lv_bipush (v := 8) hx hb d_Mo_told_131 (by decide) ?_
          refine lv_idiv hx hb d_Mo_told_133 (by decide) ?_
          refine lv_iconst (v := 1) hx hb d_Mo_told_134 (by decide) ?_
          refine lv_icmp_ne (tgt := 154) hx hb d_Mo_told_135 (by decide) (fun hq => ?_) (fun hq => ?_)
          · rw [if_pos hq] at h
            refine lv_aload_n hx hb d_Mo_told_154 rfl (lv_at hl 1 rfl) ?_
            refine ob_getR (k := 14) Cx hP ck_11 rfl w_f_Mo_48 d_Mo_told_155 h (fun n155 h => ?_)
            refine lv_iload_n hx hb d_Mo_told_158 rfl (lv_at hl 2 rfl) ?_
            refine lv_iconst (v := 2) hx hb d_Mo_told_159 (by decide) ?_
            refine ob_astI Cx hP hS d_Mo_told_160 h (fun t160 H locs h hP hS => ?_)
            exact ob_vret Cx hP hS d_Mo_told_161 h
          · rw [if_neg (fun z => z hq)] at h
            refine lv_aload_n hx hb d_Mo_told_138 rfl (lv_at hl 1 rfl) ?_
            refine ob_getR (k := 19) Cx hP ck_11 rfl w_f_Mo_63 d_Mo_told_139 h (fun n139 h => ?_)
            refine lv_iload_n hx hb d_Mo_told_142 rfl (lv_at hl 2 rfl) ?_
            refine lv_iconst (v := 1) hx hb d_Mo_told_143 (by decide) ?_
            refine ob_astI Cx hP hS d_Mo_told_144 h (fun t144 H locs h hP hS => ?_)
            refine lv_aload_n hx hb d_Mo_told_145 rfl (lv_at hl 1 rfl) ?_
            refine lv_iload_n hx hb d_Mo_told_146 rfl (lv_at hl 2 rfl) ?_
            refine lv_iconst (v := 0) hx hb d_Mo_told_147 (by decide) ?_
            refine ob_cVv (nA := 2) (As := [.int v1, .int (0 : Int32)]) (rest := []) Cx hl.1 hP hS (fun o ho => c_Mo_ask v0 v1 (0 : Int32) ho) (fun o ho => g_Mo_ask v0 v1 (0 : Int32) ho) (by decide) (rfl : ob_cl[11]? = _) mv_Mo_ask w_m_Mo_229 rfl (by decide +kernel) ⟨rfl, rfl⟩ ⟨by decide, by decide⟩ (Nat.le_of_ble_eq_true rfl) rfl d_Mo_told_148 h (fun t148 H locs h hP hS => ?_)
            refine lv_goto (tgt := 161) hx hb d_Mo_told_151 (by decide) ?_
            exact ob_vret Cx hP hS d_Mo_told_161 h
        · rw [if_neg hq] at h
          exact ob_vret Cx hP hS d_Mo_told_90 h
set_option maxHeartbeats 4000000 in
set_option maxRecDepth 100000 in
theorem tB_Mo_told_51 {p : Program} {l : Launch} {e : Env} {R : Room} {s : State} {m : MethodId} {args : Array Value} {below : List Frame} {meth : Method} {c : Code} {b : Nat} {D : va_G} {cA : Nat → ClassId} {adK adV : Nat → Nat} {out : ob_S} (Cx : ob_C p R s m args meth c cb_Mo_told 4 "ObservedBlocksModel" none b D cA adK adV 4 93) : ∀ (t : ob_S) (H : Heap) (locs : List Loc) (ls : Array Slot) (v0 : Nat) (v1 : Int32), ob_H b D cA t H → va_S (ob_A b) s.heap H locs → lv_has ls 4 [(0, .ref (b + v0)), (1, .int v1)] → B_Mo_told_51 v0 v1 t = some out → W p l e R s m args below meth c H locs 0 0 (MQ below (ob_Qv b D cA out) args s 0 0 (ob_A b)) (F0 m 51 ls []) := by
  have hx := Cx.1.1
  have hb := Cx.1.2.1
  intro t H locs ls v0 v1 hP hS hl h
  unfold B_Mo_told_51 at h
  refine lv_iconst (v := 0) hx hb d_Mo_told_51 (by decide) ?_
  exact tB_Mo_told_52 Cx t H locs ls v0 v1 (0 : Int32) hP hS (lv_sub hl [0, 1] rfl) h
theorem g_Mo_told (v0 : Nat) (v1 : Int32) {t : ob_S} {out : ob_S} (h : X_Mo_told v0 v1 t = some out) : v0 < ob_n t ∧ ob_k t v0 = 11 := by
  unfold X_Mo_told ob_this at h
  by_cases q : v0 < ob_n t ∧ ob_k t v0 = 11
  · exact q
  · rw [if_neg q] at h
    cases h
set_option maxHeartbeats 4000000 in
set_option maxRecDepth 100000 in
theorem c_Mo_told {l : Launch} {b : Nat} {D : va_G} {cA : Nat → ClassId} {adK adV : Nat → Nat} (v0 : Nat) (v1 : Int32) {t : ob_S} {out : ob_S} (h : X_Mo_told v0 v1 t = some out) : Met l y_Mo_told (Cond.code y_Mo_told cb_Mo_told 4 none :: ob_T) { frames := 4, cells := 0, slots := 0, locals := 93 } (ob_Pre b D cA adK adV [.ref (b + v0), .int v1] t) (ob_Qv b D cA out) 0 0 (ob_A b) := by
  refine ob_met (by decide) (Nat.le_of_ble_eq_true rfl) ?_
  intro p e R s m args below meth c ls Cx hP hS hl
  have hl : lv_has ls 4 [(0, .ref (b + v0)), (1, .int v1)] := hl
  have hx := Cx.1.1
  have hb := Cx.1.2.1
  have hg := g_Mo_told v0 v1 h
  unfold X_Mo_told ob_this at h
  rw [if_pos hg] at h
  obtain ⟨H, hH⟩ : ∃ H, H = s.heap := ⟨_, rfl⟩
  obtain ⟨locs, hL⟩ : ∃ locs : List Loc, locs = [] := ⟨_, rfl⟩
  rw [← hH] at hP
  have hS : va_S (ob_A b) s.heap H locs := by rw [hH, hL]; exact hS
  suffices hW : W p l e R s m args below meth c H locs 0 0 (MQ below (ob_Qv b D cA out) args s 0 0 (ob_A b)) (F0 m 0 ls []) by rw [hH, hL] at hW; exact hW
  refine lv_aload_n hx hb d_Mo_told_0 rfl (lv_at hl 0 rfl) ?_
  refine lv_iconst (v := 2) hx hb d_Mo_told_1 (by decide) ?_
  refine lv_aload_n hx hb d_Mo_told_2 rfl (lv_at hl 0 rfl) ?_
  refine ob_getI (k := 51) Cx hP ck_11 rfl w_f_Mo_197 d_Mo_told_3 h (fun x3 h => ?_)
  refine lv_iconst (v := 1) hx hb d_Mo_told_6 (by decide) ?_
  refine ob_cVv (nA := 3) (As := [.int (2 : Int32), .int x3, .int (1 : Int32)]) (rest := []) Cx hl.1 hP hS (fun o ho => c_Mo_bare v0 (2 : Int32) x3 (1 : Int32) ho) (fun o ho => g_Mo_bare v0 (2 : Int32) x3 (1 : Int32) ho) (by decide) (rfl : ob_cl[11]? = _) mv_Mo_bare w_m_Mo_233 rfl (by decide +kernel) ⟨rfl, rfl⟩ ⟨by decide, by decide⟩ (Nat.le_of_ble_eq_true rfl) rfl d_Mo_told_7 h (fun t7 H locs h hP hS => ?_)
  refine lv_aload_n hx hb d_Mo_told_10 rfl (lv_at hl 0 rfl) ?_
  refine ob_getI (k := 53) Cx hP ck_11 rfl w_f_Mo_166 d_Mo_told_11 h (fun x11 h => ?_)
  refine lv_aload_n hx hb d_Mo_told_14 rfl (lv_at hl 0 rfl) ?_
  refine ob_getR (k := 23) Cx hP ck_11 rfl w_f_Mo_75 d_Mo_told_15 h (fun n15 h => ?_)
  refine lv_iload_n hx hb d_Mo_told_18 rfl (lv_at hl 1 rfl) ?_
  refine ob_aldI Cx hP d_Mo_told_19 h (fun x19 h => ?_)
  refine lv_isub hx hb d_Mo_told_20 ?_
  refine lv_ldc (v := 65536) hx hb Cx.1.2.2.2.1 (Cx.1.2.2.2.2 _ w_const_ObservedBlocksModel_225) d_Mo_told_21 ?_
  refine lv_iadd hx hb d_Mo_told_23 ?_
  refine lv_ldc (v := 65536) hx hb Cx.1.2.2.2.1 (Cx.1.2.2.2.2 _ w_const_ObservedBlocksModel_225) d_Mo_told_24 ?_
  refine lv_irem hx hb d_Mo_told_26 (by decide) ?_
  refine lv_istore_n (lv' := [(2, .int (((x11 - x19) + (65536 : Int32)) - ((x11 - x19) + (65536 : Int32)) / (65536 : Int32) * (65536 : Int32))), (0, .ref (b + v0)), (1, .int v1)]) hx hb d_Mo_told_27 rfl hl (by decide) rfl (fun ls hl => ?_)
  refine lv_aload_n hx hb d_Mo_told_28 rfl (lv_at hl 1 rfl) ?_
  refine ob_getI (k := 53) Cx hP ck_11 rfl w_f_Mo_166 d_Mo_told_29 h (fun x29 h => ?_)
  refine lv_if_lt (tgt := 51) hx hb d_Mo_told_32 (by decide) (fun hq => ?_) (fun hq => ?_)
  · rw [if_pos hq] at h
    exact tB_Mo_told_51 Cx t7 H locs ls v0 v1 hP hS (lv_sub hl [1, 2] rfl) h
  · rw [if_neg hq] at h
    refine lv_iload_n hx hb d_Mo_told_35 rfl (lv_at hl 0 rfl) ?_
    refine lv_iconst (v := 1) hx hb d_Mo_told_36 (by decide) ?_
    refine lv_icmp_lt (tgt := 51) hx hb d_Mo_told_37 (by decide) (fun hq => ?_) (fun hq => ?_)
    · rw [if_pos hq] at h
      exact tB_Mo_told_51 Cx t7 H locs ls v0 v1 hP hS (lv_sub hl [1, 2] rfl) h
    · rw [if_neg hq] at h
      refine lv_iload_n hx hb d_Mo_told_40 rfl (lv_at hl 0 rfl) ?_
      refine lv_sipush (v := 32767) hx hb d_Mo_told_41 (by decide) ?_
      refine lv_icmp_gt (tgt := 51) hx hb d_Mo_told_44 (by decide) (fun hq => ?_) (fun hq => ?_)
      · rw [if_pos hq] at h
        exact tB_Mo_told_51 Cx t7 H locs ls v0 v1 hP hS (lv_sub hl [1, 2] rfl) h
      · rw [if_neg hq] at h
        refine lv_iconst (v := 1) hx hb d_Mo_told_47 (by decide) ?_
        refine lv_goto (tgt := 52) hx hb d_Mo_told_48 (by decide) ?_
        exact tB_Mo_told_52 Cx t7 H locs ls v0 v1 (1 : Int32) hP hS (lv_sub hl [1, 2] rfl) h
set_option maxHeartbeats 4000000 in
set_option maxRecDepth 100000 in
theorem tB_Mo_toClient_73 {p : Program} {l : Launch} {e : Env} {R : Room} {s : State} {m : MethodId} {args : Array Value} {below : List Frame} {meth : Method} {c : Code} {b : Nat} {D : va_G} {cA : Nat → ClassId} {adK adV : Nat → Nat} {out : ob_S} (Cx : ob_C p R s m args meth c cb_Mo_toClient 2 "ObservedBlocksModel" none b D cA adK adV 5 117) {k17 : Nat → Int32 → ob_S → Option ob_S} (hk17 : ∀ (t : ob_S) (H : Heap) (locs : List Loc) (ls : Array Slot) (v0 : Nat) (v1 : Int32), ob_H b D cA t H → va_S (ob_A b) s.heap H locs → lv_has ls 2 [(0, .ref (b + v0)), (1, .int v1)] → k17 v0 v1 t = some out → W p l e R s m args below meth c H locs 0 0 (MQ below (ob_Qv b D cA out) args s 0 0 (ob_A b)) (F0 m 17 ls [])) : ∀ (t : ob_S) (H : Heap) (locs : List Loc) (ls : Array Slot) (v0 : Nat) (v1 : Int32), ob_H b D cA t H → va_S (ob_A b) s.heap H locs → lv_has ls 2 [(0, .ref (b + v0)), (1, .int v1)] → B_Mo_toClient_73 k17 v0 v1 t = some out → W p l e R s m args below meth c H locs 0 0 (MQ below (ob_Qv b D cA out) args s 0 0 (ob_A b)) (F0 m 73 ls []) := by
  have hx := Cx.1.1
  have hb := Cx.1.2.1
  intro t H locs ls v0 v1 hP hS hl h
  unfold B_Mo_toClient_73 at h
  refine lv_iinc (v := (v1 + (1 : Int32))) (lv' := [(1, .int (v1 + (1 : Int32))), (0, .ref (b + v0))]) hx hb d_Mo_toClient_73 hl (k := 1) rfl rfl (by decide) rfl (fun ls hl => ?_)
  refine lv_goto (tgt := 17) hx hb d_Mo_toClient_76 (by decide) ?_
  exact hk17 t H locs ls v0 (v1 + (1 : Int32)) hP hS (lv_sub hl [1, 0] rfl) h
set_option maxHeartbeats 4000000 in
set_option maxRecDepth 100000 in
theorem tB_Mo_toClient_130 {p : Program} {l : Launch} {e : Env} {R : Room} {s : State} {m : MethodId} {args : Array Value} {below : List Frame} {meth : Method} {c : Code} {b : Nat} {D : va_G} {cA : Nat → ClassId} {adK adV : Nat → Nat} {out : ob_S} (Cx : ob_C p R s m args meth c cb_Mo_toClient 2 "ObservedBlocksModel" none b D cA adK adV 5 117) {k97 : Nat → Int32 → ob_S → Option ob_S} (hk97 : ∀ (t : ob_S) (H : Heap) (locs : List Loc) (ls : Array Slot) (v0 : Nat) (v1 : Int32), ob_H b D cA t H → va_S (ob_A b) s.heap H locs → lv_has ls 2 [(0, .ref (b + v0)), (1, .int v1)] → k97 v0 v1 t = some out → W p l e R s m args below meth c H locs 0 0 (MQ below (ob_Qv b D cA out) args s 0 0 (ob_A b)) (F0 m 97 ls [])) : ∀ (t : ob_S) (H : Heap) (locs : List Loc) (ls : Array Slot) (v0 : Nat) (v1 : Int32), ob_H b D cA t H → va_S (ob_A b) s.heap H locs → lv_has ls 2 [(0, .ref (b + v0)), (1, .int v1)] → B_Mo_toClient_130 k97 v0 v1 t = some out → W p l e R s m args below meth c H locs 0 0 (MQ below (ob_Qv b D cA out) args s 0 0 (ob_A b)) (F0 m 130 ls []) := by
  have hx := Cx.1.1
  have hb := Cx.1.2.1
  intro t H locs ls v0 v1 hP hS hl h
  unfold B_Mo_toClient_130 at h
  refine lv_iinc (v := (v1 + (1 : Int32))) (lv' := [(1, .int (v1 + (1 : Int32))), (0, .ref (b + v0))]) hx hb d_Mo_toClient_130 hl (k := 1) rfl rfl (by decide) rfl (fun ls hl => ?_)
  refine lv_goto (tgt := 97) hx hb d_Mo_toClient_133 (by decide) ?_
  exact hk97 t H locs ls v0 (v1 + (1 : Int32)) hP hS (lv_sub hl [1, 0] rfl) h
set_option maxHeartbeats 4000000 in
set_option maxRecDepth 100000 in
theorem tB_Mo_toClient_97 {p : Program} {l : Launch} {e : Env} {R : Room} {s : State} {m : MethodId} {args : Array Value} {below : List Frame} {meth : Method} {c : Code} {b : Nat} {D : va_G} {cA : Nat → ClassId} {adK adV : Nat → Nat} {out : ob_S} (Cx : ob_C p R s m args meth c cb_Mo_toClient 2 "ObservedBlocksModel" none b D cA adK adV 5 117) : ∀ (fu : Nat), ∀ (t : ob_S) (H : Heap) (locs : List Loc) (ls : Array Slot) (v0 : Nat) (v1 : Int32), ob_H b D cA t H → va_S (ob_A b) s.heap H locs → lv_has ls 2 [(0, .ref (b + v0)), (1, .int v1)] → B_Mo_toClient_97 fu v0 v1 t = some out → W p l e R s m args below meth c H locs 0 0 (MQ below (ob_Qv b D cA out) args s 0 0 (ob_A b)) (F0 m 97 ls []) := by
  have hx := Cx.1.1
  have hb := Cx.1.2.1
  intro fu
  induction fu with
  | zero =>
    intro t H locs ls v0 v1 hP hS hl h
    cases h
  | succ fu ih =>
    intro t H locs ls v0 v1 hP hS hl h
    rw [B_Mo_toClient_97] at h
    refine lv_iload_n hx hb d_Mo_toClient_97 rfl (lv_at hl 1 rfl) ?_
    refine lv_iconst (v := 2) hx hb d_Mo_toClient_98 (by decide) ?_
    refine lv_icmp_ge (tgt := 136) hx hb d_Mo_toClient_99 (by decide) (fun hq => ?_) (fun hq => ?_)
    · rw [if_pos hq] at h
      refine lv_aload_n hx hb d_Mo_toClient_136 rfl (lv_at hl 0 rfl) ?_
      refine lv_iconst (v := 3) hx hb d_Mo_toClient_137 (by decide) ?_
      refine lv_aload_n hx hb d_Mo_toClient_138 rfl (lv_at hl 0 rfl) ?_
      refine ob_getI (k := 51) Cx hP ck_11 rfl w_f_Mo_197 d_Mo_toClient_139 h (fun x139 h => ?_)
      refine lv_iconst (v := 1) hx hb d_Mo_toClient_142 (by decide) ?_
      refine ob_cVv (nA := 3) (As := [.int (3 : Int32), .int x139, .int (1 : Int32)]) (rest := []) Cx hl.1 hP hS (fun o ho => c_Mo_bare v0 (3 : Int32) x139 (1 : Int32) ho) (fun o ho => g_Mo_bare v0 (3 : Int32) x139 (1 : Int32) ho) (by decide) (rfl : ob_cl[11]? = _) mv_Mo_bare w_m_Mo_233 rfl (by decide +kernel) ⟨rfl, rfl⟩ ⟨by decide, by decide⟩ (Nat.le_of_ble_eq_true rfl) rfl d_Mo_toClient_143 h (fun t143 H locs h hP hS => ?_)
      exact ob_vret Cx hP hS d_Mo_toClient_146 h
    · rw [if_neg hq] at h
      refine lv_aload_n hx hb d_Mo_toClient_102 rfl (lv_at hl 0 rfl) ?_
      refine ob_getR (k := 22) Cx hP ck_11 rfl w_f_Mo_72 d_Mo_toClient_103 h (fun n103 h => ?_)
      refine lv_iload_n hx hb d_Mo_toClient_106 rfl (lv_at hl 1 rfl) ?_
      refine ob_aldZ Cx hP d_Mo_toClient_107 h (fun x107 h => ?_)
      refine lv_if_eq (tgt := 130) hx hb d_Mo_toClient_108 (by decide) (fun hq => ?_) (fun hq => ?_)
      · rw [if_pos hq] at h
        exact tB_Mo_toClient_130 Cx ih t H locs ls v0 v1 hP hS (lv_sub hl [0, 1] rfl) h
      · rw [if_neg hq] at h
        refine lv_aload_n hx hb d_Mo_toClient_111 rfl (lv_at hl 0 rfl) ?_
        refine ob_getR (k := 16) Cx hP ck_11 rfl w_f_Mo_54 d_Mo_toClient_112 h (fun n112 h => ?_)
        refine lv_iload_n hx hb d_Mo_toClient_115 rfl (lv_at hl 1 rfl) ?_
        refine ob_aldI Cx hP d_Mo_toClient_116 h (fun x116 h => ?_)
        refine lv_aload_n hx hb d_Mo_toClient_117 rfl (lv_at hl 0 rfl) ?_
        refine ob_getI (k := 52) Cx hP ck_11 rfl w_f_Mo_188 d_Mo_toClient_118 h (fun x118 h => ?_)
        refine lv_icmp_ne (tgt := 130) hx hb d_Mo_toClient_121 (by decide) (fun hq => ?_) (fun hq => ?_)
        · rw [if_pos hq] at h
          exact tB_Mo_toClient_130 Cx ih t H locs ls v0 v1 hP hS (lv_sub hl [0, 1] rfl) h
        · rw [if_neg (fun z => z hq)] at h
          refine lv_aload_n hx hb d_Mo_toClient_124 rfl (lv_at hl 0 rfl) ?_
          refine lv_iload_n hx hb d_Mo_toClient_125 rfl (lv_at hl 1 rfl) ?_
          refine ob_cVv (nA := 1) (As := [.int v1]) (rest := []) Cx hl.1 hP hS (fun o ho => c_Mo_told v0 v1 ho) (fun o ho => g_Mo_told v0 v1 ho) (by decide) (rfl : ob_cl[11]? = _) mv_Mo_told w_m_Mo_239 rfl (by decide +kernel) ⟨rfl, rfl⟩ ⟨by decide, by decide⟩ (Nat.le_of_ble_eq_true rfl) rfl d_Mo_toClient_126 h (fun t126 H locs h hP hS => ?_)
          exact ob_vret Cx hP hS d_Mo_toClient_129 h
set_option maxHeartbeats 4000000 in
set_option maxRecDepth 100000 in
theorem tB_Mo_toClient_79 {p : Program} {l : Launch} {e : Env} {R : Room} {s : State} {m : MethodId} {args : Array Value} {below : List Frame} {meth : Method} {c : Code} {b : Nat} {D : va_G} {cA : Nat → ClassId} {adK adV : Nat → Nat} {out : ob_S} (Cx : ob_C p R s m args meth c cb_Mo_toClient 2 "ObservedBlocksModel" none b D cA adK adV 5 117) : ∀ (t : ob_S) (H : Heap) (locs : List Loc) (ls : Array Slot) (v0 : Nat), ob_H b D cA t H → va_S (ob_A b) s.heap H locs → lv_has ls 2 [(0, .ref (b + v0))] → B_Mo_toClient_79 v0 t = some out → W p l e R s m args below meth c H locs 0 0 (MQ below (ob_Qv b D cA out) args s 0 0 (ob_A b)) (F0 m 79 ls []) := by
  have hx := Cx.1.1
  have hb := Cx.1.2.1
  intro t H locs ls v0 hP hS hl h
  unfold B_Mo_toClient_79 at h
  refine lv_aload_n hx hb d_Mo_toClient_79 rfl (lv_at hl 0 rfl) ?_
  refine ob_getI (k := 49) Cx hP ck_11 rfl w_f_Mo_191 d_Mo_toClient_80 h (fun x80 h => ?_)
  refine lv_if_ne (tgt := 146) hx hb d_Mo_toClient_83 (by decide) (fun hq => ?_) (fun hq => ?_)
  · rw [if_pos hq] at h
    exact ob_vret Cx hP hS d_Mo_toClient_146 h
  · rw [if_neg (fun z => z hq)] at h
    refine lv_aload_n hx hb d_Mo_toClient_86 rfl (lv_at hl 0 rfl) ?_
    refine ob_getI (k := 50) Cx hP ck_11 rfl w_f_Mo_194 d_Mo_toClient_87 h (fun x87 h => ?_)
    refine lv_bipush (v := 69) hx hb d_Mo_toClient_90 (by decide) ?_
    refine lv_icmp_ne (tgt := 146) hx hb d_Mo_toClient_92 (by decide) (fun hq => ?_) (fun hq => ?_)
    · rw [if_pos hq] at h
      exact ob_vret Cx hP hS d_Mo_toClient_146 h
    · rw [if_neg (fun z => z hq)] at h
      refine lv_iconst (v := 0) hx hb d_Mo_toClient_95 (by decide) ?_
      refine lv_istore_n (lv' := [(1, .int (0 : Int32)), (0, .ref (b + v0))]) hx hb d_Mo_toClient_96 rfl hl (by decide) rfl (fun ls hl => ?_)
      exact tB_Mo_toClient_97 Cx ob_fu t H locs ls v0 (0 : Int32) hP hS (lv_sub hl [1, 0] rfl) h
set_option maxHeartbeats 4000000 in
set_option maxRecDepth 100000 in
theorem tB_Mo_toClient_17 {p : Program} {l : Launch} {e : Env} {R : Room} {s : State} {m : MethodId} {args : Array Value} {below : List Frame} {meth : Method} {c : Code} {b : Nat} {D : va_G} {cA : Nat → ClassId} {adK adV : Nat → Nat} {out : ob_S} (Cx : ob_C p R s m args meth c cb_Mo_toClient 2 "ObservedBlocksModel" none b D cA adK adV 5 117) : ∀ (fu : Nat), ∀ (t : ob_S) (H : Heap) (locs : List Loc) (ls : Array Slot) (v0 : Nat) (v1 : Int32), ob_H b D cA t H → va_S (ob_A b) s.heap H locs → lv_has ls 2 [(0, .ref (b + v0)), (1, .int v1)] → B_Mo_toClient_17 fu v0 v1 t = some out → W p l e R s m args below meth c H locs 0 0 (MQ below (ob_Qv b D cA out) args s 0 0 (ob_A b)) (F0 m 17 ls []) := by
  have hx := Cx.1.1
  have hb := Cx.1.2.1
  intro fu
  induction fu with
  | zero =>
    intro t H locs ls v0 v1 hP hS hl h
    cases h
  | succ fu ih =>
    intro t H locs ls v0 v1 hP hS hl h
    rw [B_Mo_toClient_17] at h
    refine lv_iload_n hx hb d_Mo_toClient_17 rfl (lv_at hl 1 rfl) ?_
    refine lv_iconst (v := 2) hx hb d_Mo_toClient_18 (by decide) ?_
    refine lv_icmp_ge (tgt := 79) hx hb d_Mo_toClient_19 (by decide) (fun hq => ?_) (fun hq => ?_)
    · rw [if_pos hq] at h
      exact tB_Mo_toClient_79 Cx t H locs ls v0 hP hS (lv_sub hl [0] rfl) h
    · rw [if_neg hq] at h
      refine lv_aload_n hx hb d_Mo_toClient_22 rfl (lv_at hl 0 rfl) ?_
      refine ob_getR (k := 14) Cx hP ck_11 rfl w_f_Mo_48 d_Mo_toClient_23 h (fun n23 h => ?_)
      refine lv_iload_n hx hb d_Mo_toClient_26 rfl (lv_at hl 1 rfl) ?_
      refine ob_aldI Cx hP d_Mo_toClient_27 h (fun x27 h => ?_)
      refine lv_iconst (v := 1) hx hb d_Mo_toClient_28 (by decide) ?_
      refine lv_icmp_ne (tgt := 73) hx hb d_Mo_toClient_29 (by decide) (fun hq => ?_) (fun hq => ?_)
      · rw [if_pos hq] at h
        exact tB_Mo_toClient_73 Cx ih t H locs ls v0 v1 hP hS (lv_sub hl [0, 1] rfl) h
      · rw [if_neg (fun z => z hq)] at h
        refine lv_aload_n hx hb d_Mo_toClient_32 rfl (lv_at hl 0 rfl) ?_
        refine ob_getR (k := 7) Cx hP ck_11 rfl w_f_Mo_26 d_Mo_toClient_33 h (fun n33 h => ?_)
        refine lv_iload_n hx hb d_Mo_toClient_36 rfl (lv_at hl 1 rfl) ?_
        refine ob_aldZ Cx hP d_Mo_toClient_37 h (fun x37 h => ?_)
        refine lv_if_eq (tgt := 73) hx hb d_Mo_toClient_38 (by decide) (fun hq => ?_) (fun hq => ?_)
        · rw [if_pos hq] at h
          exact tB_Mo_toClient_73 Cx ih t H locs ls v0 v1 hP hS (lv_sub hl [0, 1] rfl) h
        · rw [if_neg hq] at h
          refine lv_aload_n hx hb d_Mo_toClient_41 rfl (lv_at hl 0 rfl) ?_
          refine ob_getR (k := 8) Cx hP ck_11 rfl w_f_Mo_30 d_Mo_toClient_42 h (fun n42 h => ?_)
          refine lv_iload_n hx hb d_Mo_toClient_45 rfl (lv_at hl 1 rfl) ?_
          refine ob_aldI Cx hP d_Mo_toClient_46 h (fun x46 h => ?_)
          refine lv_aload_n hx hb d_Mo_toClient_47 rfl (lv_at hl 0 rfl) ?_
          refine ob_getI (k := 51) Cx hP ck_11 rfl w_f_Mo_197 d_Mo_toClient_48 h (fun x48 h => ?_)
          refine lv_icmp_ne (tgt := 73) hx hb d_Mo_toClient_51 (by decide) (fun hq => ?_) (fun hq => ?_)
          · rw [if_pos hq] at h
            exact tB_Mo_toClient_73 Cx ih t H locs ls v0 v1 hP hS (lv_sub hl [0, 1] rfl) h
          · rw [if_neg (fun z => z hq)] at h
            refine lv_aload_n hx hb d_Mo_toClient_54 rfl (lv_at hl 0 rfl) ?_
            refine ob_getR (k := 16) Cx hP ck_11 rfl w_f_Mo_54 d_Mo_toClient_55 h (fun n55 h => ?_)
            refine lv_iload_n hx hb d_Mo_toClient_58 rfl (lv_at hl 1 rfl) ?_
            refine ob_aldI Cx hP d_Mo_toClient_59 h (fun x59 h => ?_)
            refine lv_aload_n hx hb d_Mo_toClient_60 rfl (lv_at hl 0 rfl) ?_
            refine ob_getI (k := 52) Cx hP ck_11 rfl w_f_Mo_188 d_Mo_toClient_61 h (fun x61 h => ?_)
            refine lv_icmp_ne (tgt := 73) hx hb d_Mo_toClient_64 (by decide) (fun hq => ?_) (fun hq => ?_)
            · rw [if_pos hq] at h
              exact tB_Mo_toClient_73 Cx ih t H locs ls v0 v1 hP hS (lv_sub hl [0, 1] rfl) h
            · rw [if_neg (fun z => z hq)] at h
              refine lv_aload_n hx hb d_Mo_toClient_67 rfl (lv_at hl 0 rfl) ?_
              refine lv_iload_n hx hb d_Mo_toClient_68 rfl (lv_at hl 1 rfl) ?_
              refine ob_cVv (nA := 1) (As := [.int v1]) (rest := []) Cx hl.1 hP hS (fun o ho => c_Mo_answered v0 v1 ho) (fun o ho => g_Mo_answered v0 v1 ho) (by decide) (rfl : ob_cl[11]? = _) mv_Mo_answered w_m_Mo_236 rfl (by decide +kernel) ⟨rfl, rfl⟩ ⟨by decide, by decide⟩ (Nat.le_of_ble_eq_true rfl) rfl d_Mo_toClient_69 h (fun t69 H locs h hP hS => ?_)
              exact ob_vret Cx hP hS d_Mo_toClient_72 h
theorem g_Mo_toClient (v0 : Nat) {t : ob_S} {out : ob_S} (h : X_Mo_toClient v0 t = some out) : v0 < ob_n t ∧ ob_k t v0 = 11 := by
  unfold X_Mo_toClient ob_this at h
  by_cases q : v0 < ob_n t ∧ ob_k t v0 = 11
  · exact q
  · rw [if_neg q] at h
    cases h
set_option maxHeartbeats 4000000 in
set_option maxRecDepth 100000 in
theorem c_Mo_toClient {l : Launch} {b : Nat} {D : va_G} {cA : Nat → ClassId} {adK adV : Nat → Nat} (v0 : Nat) {t : ob_S} {out : ob_S} (h : X_Mo_toClient v0 t = some out) : Met l y_Mo_toClient (Cond.code y_Mo_toClient cb_Mo_toClient 2 none :: ob_T) { frames := 5, cells := 0, slots := 0, locals := 117 } (ob_Pre b D cA adK adV [.ref (b + v0)] t) (ob_Qv b D cA out) 0 0 (ob_A b) := by
  refine ob_met (by decide) (Nat.le_of_ble_eq_true rfl) ?_
  intro p e R s m args below meth c ls Cx hP hS hl
  have hl : lv_has ls 2 [(0, .ref (b + v0))] := hl
  have hx := Cx.1.1
  have hb := Cx.1.2.1
  have hg := g_Mo_toClient v0 h
  unfold X_Mo_toClient ob_this at h
  rw [if_pos hg] at h
  obtain ⟨H, hH⟩ : ∃ H, H = s.heap := ⟨_, rfl⟩
  obtain ⟨locs, hL⟩ : ∃ locs : List Loc, locs = [] := ⟨_, rfl⟩
  rw [← hH] at hP
  have hS : va_S (ob_A b) s.heap H locs := by rw [hH, hL]; exact hS
  suffices hW : W p l e R s m args below meth c H locs 0 0 (MQ below (ob_Qv b D cA out) args s 0 0 (ob_A b)) (F0 m 0 ls []) by rw [hH, hL] at hW; exact hW
  refine lv_aload_n hx hb d_Mo_toClient_0 rfl (lv_at hl 0 rfl) ?_
  refine ob_getI (k := 49) Cx hP ck_11 rfl w_f_Mo_191 d_Mo_toClient_1 h (fun x1 h => ?_)
  refine lv_iconst (v := 2) hx hb d_Mo_toClient_4 (by decide) ?_
  refine lv_icmp_ne (tgt := 79) hx hb d_Mo_toClient_5 (by decide) (fun hq => ?_) (fun hq => ?_)
  · rw [if_pos hq] at h
    exact tB_Mo_toClient_79 Cx t H locs ls v0 hP hS (lv_sub hl [0] rfl) h
  · rw [if_neg (fun z => z hq)] at h
    refine lv_aload_n hx hb d_Mo_toClient_8 rfl (lv_at hl 0 rfl) ?_
    refine ob_getI (k := 50) Cx hP ck_11 rfl w_f_Mo_194 d_Mo_toClient_9 h (fun x9 h => ?_)
    refine lv_if_eq (tgt := 79) hx hb d_Mo_toClient_12 (by decide) (fun hq => ?_) (fun hq => ?_)
    · rw [if_pos hq] at h
      exact tB_Mo_toClient_79 Cx t H locs ls v0 hP hS (lv_sub hl [0] rfl) h
    · rw [if_neg hq] at h
      refine lv_iconst (v := 0) hx hb d_Mo_toClient_15 (by decide) ?_
      refine lv_istore_n (lv' := [(1, .int (0 : Int32)), (0, .ref (b + v0))]) hx hb d_Mo_toClient_16 rfl hl (by decide) rfl (fun ls hl => ?_)
      exact tB_Mo_toClient_17 Cx ob_fu t H locs ls v0 (0 : Int32) hP hS (lv_sub hl [1, 0] rfl) h

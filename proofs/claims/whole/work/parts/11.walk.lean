set_option maxHeartbeats 4000000 in
set_option maxRecDepth 100000 in
theorem c_Ob_following {l : Launch} {b : Nat} {D : va_G} {cA : Nat → ClassId} {adK adV : Nat → Nat} (v0 : Int32) {t : ob_S} {out : (Int32 × ob_S)} (h : X_Ob_following v0 t = some out) : Met l y_Ob_following (Cond.code y_Ob_following cb_Ob_following 1 (some .int) :: ob_T) { frames := 0, cells := 0, slots := 0, locals := 0 } (ob_Pre b D cA adK adV [.int v0] t) (ob_Qi b D cA out) 0 0 (ob_A b) := by
  refine ob_met (by decide) (Nat.le_of_ble_eq_true rfl) ?_
  intro p e R s m args below meth c ls Cx hP hS hl
  have hl : lv_has ls 1 [(0, .int v0)] := hl
  have hx := Cx.1.1
  have hb := Cx.1.2.1
  unfold X_Ob_following at h
  obtain ⟨H, hH⟩ : ∃ H, H = s.heap := ⟨_, rfl⟩
  obtain ⟨locs, hL⟩ : ∃ locs : List Loc, locs = [] := ⟨_, rfl⟩
  rw [← hH] at hP
  have hS : va_S (ob_A b) s.heap H locs := by rw [hH, hL]; exact hS
  suffices hW : W p l e R s m args below meth c H locs 0 0 (MQ below (ob_Qi b D cA out) args s 0 0 (ob_A b)) (F0 m 0 ls []) by rw [hH, hL] at hW; exact hW
  refine lv_iload_n hx hb d_Ob_following_0 rfl (lv_at hl 0 rfl) ?_
  refine lv_iconst (v := 1) hx hb d_Ob_following_1 (by decide) ?_
  refine lv_iadd hx hb d_Ob_following_2 ?_
  refine lv_ldc (v := 65535) hx hb Cx.1.2.2.2.1 (Cx.1.2.2.2.2 _ w_const_ObservedBlocks_163) d_Ob_following_3 ?_
  refine lv_iand hx hb d_Ob_following_5 ?_
  exact ob_iret Cx hP hS d_Ob_following_6 h
theorem g_Li_send (v0 : Nat) (v1 : Nat) (v2 : Int32) {t : ob_S} {out : ob_S} (h : X_Li_send v0 v1 v2 t = some out) : v0 < ob_n t ∧ ob_k t v0 = 1 := by
  unfold X_Li_send ob_this at h
  by_cases q : v0 < ob_n t ∧ ob_k t v0 = 1
  · exact q
  · rw [if_neg q] at h
    cases h
set_option maxHeartbeats 4000000 in
set_option maxRecDepth 100000 in
theorem c_Li_send {l : Launch} {b : Nat} {D : va_G} {cA : Nat → ClassId} {adK adV : Nat → Nat} (v0 : Nat) (v1 : Nat) (v2 : Int32) {t : ob_S} {out : ob_S} (h : X_Li_send v0 v1 v2 t = some out) : Met l y_Li_send (Cond.code y_Li_send cb_Li_send 3 none :: ob_T) { frames := 2, cells := 0, slots := 0, locals := 49 } (ob_Pre b D cA adK adV [.ref (b + v0), .ref (b + v1), .int v2] t) (ob_Qv b D cA out) 0 0 (ob_A b) := by
  refine ob_met (by decide) (Nat.le_of_ble_eq_true rfl) ?_
  intro p e R s m args below meth c ls Cx hP hS hl
  have hl : lv_has ls 3 [(0, .ref (b + v0)), (1, .ref (b + v1)), (2, .int v2)] := hl
  have hx := Cx.1.1
  have hb := Cx.1.2.1
  have hg := g_Li_send v0 v1 v2 h
  unfold X_Li_send ob_this at h
  rw [if_pos hg] at h
  obtain ⟨H, hH⟩ : ∃ H, H = s.heap := ⟨_, rfl⟩
  obtain ⟨locs, hL⟩ : ∃ locs : List Loc, locs = [] := ⟨_, rfl⟩
  rw [← hH] at hP
  have hS : va_S (ob_A b) s.heap H locs := by rw [hH, hL]; exact hS
  suffices hW : W p l e R s m args below meth c H locs 0 0 (MQ below (ob_Qv b D cA out) args s 0 0 (ob_A b)) (F0 m 0 ls []) by rw [hH, hL] at hW; exact hW
  refine lv_aload_n hx hb d_Li_send_0 rfl (lv_at hl 0 rfl) ?_
  refine ob_getI (k := 2) Cx hP ck_1 rfl w_f_Li_24 d_Li_send_1 h (fun x1 h => ?_)
  refine lv_bipush (v := 16) hx hb d_Li_send_4 (by decide) ?_
  refine lv_icmp_ge (tgt := 42) hx hb d_Li_send_6 (by decide) (fun hq => ?_) (fun hq => ?_)
  · rw [if_pos hq] at h
    exact ob_vret Cx hP hS d_Li_send_42 h
  · rw [if_neg hq] at h
    refine lv_aload_n hx hb d_Li_send_9 rfl (lv_at hl 0 rfl) ?_
    refine ob_getR (k := 0) Cx hP ck_1 rfl w_f_Li_11 d_Li_send_10 h (fun n10 h => ?_)
    refine lv_aload_n hx hb d_Li_send_13 rfl (lv_at hl 0 rfl) ?_
    refine ob_getI (k := 2) Cx hP ck_1 rfl w_f_Li_24 d_Li_send_14 h (fun x14 h => ?_)
    refine ob_aldR (kd := 14) Cx hP (by decide) rfl d_Li_send_17 h (fun n17 h => ?_)
    refine lv_aload_n hx hb d_Li_send_18 rfl (lv_at hl 1 rfl) ?_
    refine ob_cVv (nA := 1) (As := [.ref (b + v1)]) (rest := []) Cx hl.1 hP hS (fun o ho => c_By_become n17 v1 ho) (fun o ho => g_By_become n17 v1 ho) (by decide) (rfl : ob_cl[0]? = _) mv_By_become w_m_Li_28 rfl (by decide +kernel) ⟨rfl, rfl⟩ ⟨by decide, by decide⟩ (Nat.le_of_ble_eq_true rfl) rfl d_Li_send_19 h (fun t19 H locs h hP hS => ?_)
    refine lv_aload_n hx hb d_Li_send_22 rfl (lv_at hl 0 rfl) ?_
    refine ob_getR (k := 1) Cx hP ck_1 rfl w_f_Li_17 d_Li_send_23 h (fun n23 h => ?_)
    refine lv_aload_n hx hb d_Li_send_26 rfl (lv_at hl 0 rfl) ?_
    refine ob_getI (k := 2) Cx hP ck_1 rfl w_f_Li_24 d_Li_send_27 h (fun x27 h => ?_)
    refine lv_iload_n hx hb d_Li_send_30 rfl (lv_at hl 2 rfl) ?_
    refine ob_astI Cx hP hS d_Li_send_31 h (fun t31 H locs h hP hS => ?_)
    refine lv_aload_n hx hb d_Li_send_32 rfl (lv_at hl 0 rfl) ?_
    refine lv_dup hx hb d_Li_send_33 rfl ?_
    refine ob_getI (k := 2) Cx hP ck_1 rfl w_f_Li_24 d_Li_send_34 h (fun x34 h => ?_)
    refine lv_iconst (v := 1) hx hb d_Li_send_37 (by decide) ?_
    refine lv_iadd hx hb d_Li_send_38 ?_
    refine ob_putI (k := 2) Cx hP hS ck_1 rfl rfl rfl w_f_Li_24 d_Li_send_39 h (fun t39 H locs h hP hS => ?_)
    exact ob_vret Cx hP hS d_Li_send_42 h
set_option maxHeartbeats 4000000 in
set_option maxRecDepth 100000 in
theorem tB_Cl_ask_163 {p : Program} {l : Launch} {e : Env} {R : Room} {s : State} {m : MethodId} {args : Array Value} {below : List Frame} {meth : Method} {c : Code} {b : Nat} {D : va_G} {cA : Nat → ClassId} {adK adV : Nat → Nat} {out : ob_S} (Cx : ob_C p R s m args meth c cb_Cl_ask 4 "ObservedBlocks$Client" none b D cA adK adV 5 107) : ∀ (t : ob_S) (H : Heap) (locs : List Loc) (ls : Array Slot) (v0 : Nat) (v1 : Nat), ob_H b D cA t H → va_S (ob_A b) s.heap H locs → lv_has ls 4 [(0, .ref (b + v0)), (1, .ref (b + v1))] → B_Cl_ask_163 v0 v1 t = some out → W p l e R s m args below meth c H locs 0 0 (MQ below (ob_Qv b D cA out) args s 0 0 (ob_A b)) (F0 m 163 ls []) := by
  have hx := Cx.1.1
  have hb := Cx.1.2.1
  intro t H locs ls v0 v1 hP hS hl h
  unfold B_Cl_ask_163 at h
  refine lv_aload_n hx hb d_Cl_ask_163 rfl (lv_at hl 1 rfl) ?_
  refine lv_iconst (v := 1) hx hb d_Cl_ask_164 (by decide) ?_
  refine ob_putI (k := 2) Cx hP hS ck_6 rfl rfl rfl w_f_Cl_98 d_Cl_ask_165 h (fun t165 H locs h hP hS => ?_)
  refine lv_aload_n hx hb d_Cl_ask_168 rfl (lv_at hl 1 rfl) ?_
  refine ob_getR (k := 1) Cx hP ck_6 rfl w_f_Cl_101 d_Cl_ask_169 h (fun n169 h => ?_)
  refine lv_aload_n hx hb d_Cl_ask_172 rfl (lv_at hl 0 rfl) ?_
  refine ob_getI (k := 3) Cx hP ck_7 rfl w_f_Cl_31 d_Cl_ask_173 h (fun x173 h => ?_)
  refine lv_aload_n hx hb d_Cl_ask_176 rfl (lv_at hl 0 rfl) ?_
  refine ob_getR (k := 2) Cx hP ck_7 rfl w_f_Cl_27 d_Cl_ask_177 h (fun n177 h => ?_)
  refine ob_getR (k := 0) Cx hP ck_4 rfl w_f_Cl_105 d_Cl_ask_180 h (fun n180 h => ?_)
  refine ob_cVv (nA := 2) (As := [.int x173, .ref (b + n180)]) (rest := []) Cx hl.1 hP hS (fun o ho => c_Pe_start n169 x173 n180 ho) (fun o ho => g_Pe_start n169 x173 n180 ho) (by decide) (rfl : ob_cl[3]? = _) mv_Pe_start w_m_Cl_108 rfl (by decide +kernel) ⟨rfl, rfl⟩ ⟨by decide, by decide⟩ (Nat.le_of_ble_eq_true rfl) rfl d_Cl_ask_183 h (fun t183 H locs h hP hS => ?_)
  refine lv_aload_n hx hb d_Cl_ask_186 rfl (lv_at hl 0 rfl) ?_
  refine lv_aload_n hx hb d_Cl_ask_187 rfl (lv_at hl 0 rfl) ?_
  refine ob_getI (k := 3) Cx hP ck_7 rfl w_f_Cl_31 d_Cl_ask_188 h (fun x188 h => ?_)
  refine ob_cNi (nA := 1) (As := [.int x188]) (rest := [.ref (b + v0)]) Cx hl.1 hP hS (fun o ho => c_Ob_following x188 ho) ms_Ob_following w_n_Cl_114 rfl (by decide +kernel) ⟨rfl, rfl⟩ ⟨by decide, by decide⟩ (Nat.le_of_ble_eq_true rfl) rfl d_Cl_ask_191 h (fun x191 t191 H locs h hP hS => ?_)
  refine ob_putI (k := 3) Cx hP hS ck_7 rfl rfl rfl w_f_Cl_31 d_Cl_ask_194 h (fun t194 H locs h hP hS => ?_)
  refine lv_aload_n hx hb d_Cl_ask_197 rfl (lv_at hl 0 rfl) ?_
  refine ob_getR (k := 1) Cx hP ck_7 rfl w_f_Cl_20 d_Cl_ask_198 h (fun n198 h => ?_)
  refine lv_aload_n hx hb d_Cl_ask_201 rfl (lv_at hl 0 rfl) ?_
  refine ob_getR (k := 2) Cx hP ck_7 rfl w_f_Cl_27 d_Cl_ask_202 h (fun n202 h => ?_)
  refine ob_getR (k := 0) Cx hP ck_4 rfl w_f_Cl_105 d_Cl_ask_205 h (fun n205 h => ?_)
  refine lv_iconst (v := 1) hx hb d_Cl_ask_208 (by decide) ?_
  refine ob_cVv (nA := 2) (As := [.ref (b + n205), .int (1 : Int32)]) (rest := []) Cx hl.1 hP hS (fun o ho => c_Li_send n198 n205 (1 : Int32) ho) (fun o ho => g_Li_send n198 n205 (1 : Int32) ho) (by decide) (rfl : ob_cl[1]? = _) mv_Li_send w_m_Cl_117 rfl (by decide +kernel) ⟨rfl, rfl⟩ ⟨by decide, by decide⟩ (Nat.le_of_ble_eq_true rfl) rfl d_Cl_ask_209 h (fun t209 H locs h hP hS => ?_)
  exact ob_vret Cx hP hS d_Cl_ask_212 h
set_option maxHeartbeats 4000000 in
set_option maxRecDepth 100000 in
theorem tB_Cl_ask_82 {p : Program} {l : Launch} {e : Env} {R : Room} {s : State} {m : MethodId} {args : Array Value} {below : List Frame} {meth : Method} {c : Code} {b : Nat} {D : va_G} {cA : Nat → ClassId} {adK adV : Nat → Nat} {out : ob_S} (Cx : ob_C p R s m args meth c cb_Cl_ask 4 "ObservedBlocks$Client" none b D cA adK adV 5 107) : ∀ (t : ob_S) (H : Heap) (locs : List Loc) (ls : Array Slot) (v0 : Nat) (v1 : Nat), ob_H b D cA t H → va_S (ob_A b) s.heap H locs → lv_has ls 4 [(0, .ref (b + v0)), (1, .ref (b + v1))] → B_Cl_ask_82 v0 v1 t = some out → W p l e R s m args below meth c H locs 0 0 (MQ below (ob_Qv b D cA out) args s 0 0 (ob_A b)) (F0 m 82 ls []) := by
  have hx := Cx.1.1
  have hb := Cx.1.2.1
  intro t H locs ls v0 v1 hP hS hl h
  unfold B_Cl_ask_82 at h
  refine lv_aload_n hx hb d_Cl_ask_82 rfl (lv_at hl 1 rfl) ?_
  refine ob_getI (k := 7) Cx hP ck_6 rfl w_f_Cl_35 d_Cl_ask_83 h (fun x83 h => ?_)
  refine lv_if_eq (tgt := 142) hx hb d_Cl_ask_86 (by decide) (fun hq => ?_) (fun hq => ?_)
  · rw [if_pos hq] at h
    refine lv_aload_n hx hb d_Cl_ask_142 rfl (lv_at hl 0 rfl) ?_
    refine ob_getR (k := 2) Cx hP ck_7 rfl w_f_Cl_27 d_Cl_ask_143 h (fun n143 h => ?_)
    refine lv_bipush (v := 23) hx hb d_Cl_ask_146 (by decide) ?_
    refine lv_aload_n hx hb d_Cl_ask_148 rfl (lv_at hl 1 rfl) ?_
    refine ob_getI (k := 6) Cx hP ck_6 rfl w_f_Cl_80 d_Cl_ask_149 h (fun x149 h => ?_)
    refine lv_iconst (v := 0) hx hb d_Cl_ask_152 (by decide) ?_
    refine lv_aload_n hx hb d_Cl_ask_153 rfl (lv_at hl 1 rfl) ?_
    refine ob_getI (k := 5) Cx hP ck_6 rfl w_f_Cl_73 d_Cl_ask_154 h (fun x154 h => ?_)
    refine ob_cNi (nA := 3) (As := [.int x149, .int (0 : Int32), .int x154]) (rest := [.int (23 : Int32), .ref (b + n143)]) Cx hl.1 hP hS (fun o ho => c_Ob_blockOf x149 (0 : Int32) x154 ho) ms_Ob_blockOf w_n_Cl_86 rfl (by decide +kernel) ⟨rfl, rfl⟩ ⟨by decide, by decide⟩ (Nat.le_of_ble_eq_true rfl) rfl d_Cl_ask_157 h (fun x157 t157 H locs h hP hS => ?_)
    refine ob_cVv (nA := 2) (As := [.int (23 : Int32), .int x157]) (rest := []) Cx hl.1 hP hS (fun o ho => c_Wr_addNumber n143 (23 : Int32) x157 ho) (fun o ho => g_Wr_addNumber n143 (23 : Int32) x157 ho) (by decide) (rfl : ob_cl[4]? = _) mv_Wr_addNumber w_m_Cl_50 rfl (by decide +kernel) ⟨rfl, rfl⟩ ⟨by decide, by decide⟩ (Nat.le_of_ble_eq_true rfl) rfl d_Cl_ask_160 h (fun t160 H locs h hP hS => ?_)
    exact tB_Cl_ask_163 Cx t160 H locs ls v0 v1 hP hS (lv_sub hl [0, 1] rfl) h
  · rw [if_neg hq] at h
    refine lv_aload_n hx hb d_Cl_ask_89 rfl (lv_at hl 1 rfl) ?_
    refine ob_getI (k := 5) Cx hP ck_6 rfl w_f_Cl_73 d_Cl_ask_90 h (fun x90 h => ?_)
    refine ob_cNi (nA := 1) (As := [.int x90]) (rest := []) Cx hl.1 hP hS (fun o ho => c_Ob_sizeOf x90 ho) ms_Ob_sizeOf w_n_Cl_76 rfl (by decide +kernel) ⟨rfl, rfl⟩ ⟨by decide, by decide⟩ (Nat.le_of_ble_eq_true rfl) rfl d_Cl_ask_93 h (fun x93 t93 H locs h hP hS => ?_)
    refine lv_istore_n (lv' := [(3, .int x93), (0, .ref (b + v0)), (1, .ref (b + v1))]) hx hb d_Cl_ask_96 rfl hl (by decide) rfl (fun ls hl => ?_)
    refine lv_aload_n hx hb d_Cl_ask_97 rfl (lv_at hl 1 rfl) ?_
    refine ob_getR (k := 2) Cx hP ck_7 rfl w_f_Cl_27 d_Cl_ask_98 h (fun n98 h => ?_)
    refine lv_bipush (v := 27) hx hb d_Cl_ask_101 (by decide) ?_
    refine lv_aload_n hx hb d_Cl_ask_103 rfl (lv_at hl 2 rfl) ?_
    refine ob_getI (k := 6) Cx hP ck_6 rfl w_f_Cl_80 d_Cl_ask_104 h (fun x104 h => ?_)
    refine lv_aload_n hx hb d_Cl_ask_107 rfl (lv_at hl 2 rfl) ?_
    refine ob_cVi (nA := 0) (As := []) (rest := [.int x104, .int (27 : Int32), .ref (b + n98)]) Cx hl.1 hP hS (fun o ho => c_Sl_hasMoreToPut v1 ho) (fun o ho => g_Sl_hasMoreToPut v1 ho) (by decide) (rfl : ob_cl[6]? = _) mv_Sl_hasMoreToPut w_m_Cl_83 rfl (by decide +kernel) ⟨rfl, rfl⟩ ⟨by decide, by decide⟩ (Nat.le_of_ble_eq_true rfl) rfl d_Cl_ask_108 h (fun x108 t108 H locs h hP hS => ?_)
    refine lv_aload_n hx hb d_Cl_ask_111 rfl (lv_at hl 2 rfl) ?_
    refine ob_getI (k := 5) Cx hP ck_6 rfl w_f_Cl_73 d_Cl_ask_112 h (fun x112 h => ?_)
    refine ob_cNi (nA := 3) (As := [.int x104, .int x108, .int x112]) (rest := [.int (27 : Int32), .ref (b + n98)]) Cx hl.1 hP hS (fun o ho => c_Ob_blockOf x104 x108 x112 ho) ms_Ob_blockOf w_n_Cl_86 rfl (by decide +kernel) ⟨rfl, rfl⟩ ⟨by decide, by decide⟩ (Nat.le_of_ble_eq_true rfl) rfl d_Cl_ask_115 h (fun x115 t115 H locs h hP hS => ?_)
    refine ob_cVv (nA := 2) (As := [.int (27 : Int32), .int x115]) (rest := []) Cx hl.1 hP hS (fun o ho => c_Wr_addNumber n98 (27 : Int32) x115 ho) (fun o ho => g_Wr_addNumber n98 (27 : Int32) x115 ho) (by decide) (rfl : ob_cl[4]? = _) mv_Wr_addNumber w_m_Cl_50 rfl (by decide +kernel) ⟨rfl, rfl⟩ ⟨by decide, by decide⟩ (Nat.le_of_ble_eq_true rfl) rfl d_Cl_ask_118 h (fun t118 H locs h hP hS => ?_)
    refine lv_aload_n hx hb d_Cl_ask_121 rfl (lv_at hl 1 rfl) ?_
    refine ob_getR (k := 2) Cx hP ck_7 rfl w_f_Cl_27 d_Cl_ask_122 h (fun n122 h => ?_)
    refine lv_aload_n hx hb d_Cl_ask_125 rfl (lv_at hl 2 rfl) ?_
    refine ob_getR (k := 0) Cx hP ck_6 rfl w_f_Cl_90 d_Cl_ask_126 h (fun n126 h => ?_)
    refine lv_aload_n hx hb d_Cl_ask_129 rfl (lv_at hl 2 rfl) ?_
    refine ob_getI (k := 6) Cx hP ck_6 rfl w_f_Cl_80 d_Cl_ask_130 h (fun x130 h => ?_)
    refine lv_iload_n hx hb d_Cl_ask_133 rfl (lv_at hl 0 rfl) ?_
    refine lv_imul hx hb d_Cl_ask_134 ?_
    refine lv_iload_n hx hb d_Cl_ask_135 rfl (lv_at hl 0 rfl) ?_
    refine ob_cVv (nA := 3) (As := [.ref (b + n126), .int (x130 * x93), .int x93]) (rest := []) Cx hl.1 hP hS (fun o ho => c_Wr_addPayload n122 n126 (x130 * x93) x93 ho) (fun o ho => g_Wr_addPayload n122 n126 (x130 * x93) x93 ho) (by decide) (rfl : ob_cl[4]? = _) mv_Wr_addPayload w_m_Cl_94 rfl (by decide +kernel) ⟨rfl, rfl⟩ ⟨by decide, by decide⟩ (Nat.le_of_ble_eq_true rfl) rfl d_Cl_ask_136 h (fun t136 H locs h hP hS => ?_)
    refine lv_goto (tgt := 163) hx hb d_Cl_ask_139 (by decide) ?_
    exact tB_Cl_ask_163 Cx t136 H locs ls v0 v1 hP hS (lv_sub hl [1, 2] rfl) h
set_option maxHeartbeats 4000000 in
set_option maxRecDepth 100000 in
theorem tB_Cl_ask_45 {p : Program} {l : Launch} {e : Env} {R : Room} {s : State} {m : MethodId} {args : Array Value} {below : List Frame} {meth : Method} {c : Code} {b : Nat} {D : va_G} {cA : Nat → ClassId} {adK adV : Nat → Nat} {out : ob_S} (Cx : ob_C p R s m args meth c cb_Cl_ask 4 "ObservedBlocks$Client" none b D cA adK adV 5 107) : ∀ (t : ob_S) (H : Heap) (locs : List Loc) (ls : Array Slot) (v0 : Nat) (v1 : Nat), ob_H b D cA t H → va_S (ob_A b) s.heap H locs → lv_has ls 4 [(0, .ref (b + v0)), (1, .ref (b + v1))] → B_Cl_ask_45 v0 v1 t = some out → W p l e R s m args below meth c H locs 0 0 (MQ below (ob_Qv b D cA out) args s 0 0 (ob_A b)) (F0 m 45 ls []) := by
  have hx := Cx.1.1
  have hb := Cx.1.2.1
  intro t H locs ls v0 v1 hP hS hl h
  unfold B_Cl_ask_45 at h
  refine lv_aload_n hx hb d_Cl_ask_45 rfl (lv_at hl 0 rfl) ?_
  refine ob_getR (k := 2) Cx hP ck_7 rfl w_f_Cl_27 d_Cl_ask_46 h (fun n46 h => ?_)
  refine lv_aload_n hx hb d_Cl_ask_49 rfl (lv_at hl 1 rfl) ?_
  refine ob_getI (k := 4) Cx hP ck_6 rfl w_f_Cl_54 d_Cl_ask_50 h (fun x50 h => ?_)
  refine ob_cNs (nA := 1) (As := [.int x50]) (rest := [.ref (b + n46)]) Cx hl.1 hP hS (fun o ho => c_Ob_firstSegmentOf x50 ho) ms_Ob_firstSegmentOf w_n_Cl_57 rfl (by decide +kernel) ⟨rfl, rfl⟩ ⟨by decide, by decide⟩ (Nat.le_of_ble_eq_true rfl) rfl d_Cl_ask_53 h (fun n53 t53 H locs h hP hS => ?_)
  refine ob_cVv (nA := 1) (As := [.ref (adK n53)]) (rest := []) Cx hl.1 hP hS (fun o ho => c_Wr_addSegment n46 n53 ho) (fun o ho => g_Wr_addSegment n46 n53 ho) (by decide) (rfl : ob_cl[4]? = _) mv_Wr_addSegment w_m_Cl_61 rfl (by decide +kernel) ⟨rfl, rfl⟩ ⟨by decide, by decide⟩ (Nat.le_of_ble_eq_true rfl) rfl d_Cl_ask_56 h (fun t56 H locs h hP hS => ?_)
  refine lv_aload_n hx hb d_Cl_ask_59 rfl (lv_at hl 1 rfl) ?_
  refine ob_getI (k := 4) Cx hP ck_6 rfl w_f_Cl_54 d_Cl_ask_60 h (fun x60 h => ?_)
  refine ob_cNs (nA := 1) (As := [.int x60]) (rest := []) Cx hl.1 hP hS (fun o ho => c_Ob_secondSegmentOf x60 ho) ms_Ob_secondSegmentOf w_n_Cl_65 rfl (by decide +kernel) ⟨rfl, rfl⟩ ⟨by decide, by decide⟩ (Nat.le_of_ble_eq_true rfl) rfl d_Cl_ask_63 h (fun n63 t63 H locs h hP hS => ?_)
  refine lv_astore_n (lv' := [(2, .ref (adK n63)), (0, .ref (b + v0)), (1, .ref (b + v1))]) hx hb d_Cl_ask_66 rfl hl (by decide) rfl (fun ls hl => ?_)
  refine lv_aload_n hx hb d_Cl_ask_67 rfl (lv_at hl 0 rfl) ?_
  refine ob_cTi (nA := 0) (As := []) (rest := []) Cx hl.1 hP hS (fun o ho => c_Str_isEmpty n63 ho) (fun o ho => g_Str_isEmpty n63 ho) mv_Str_isEmpty w_m_Cl_68 rfl (by decide +kernel) ⟨rfl, rfl⟩ ⟨by decide, by decide⟩ (Nat.le_of_ble_eq_true rfl) rfl d_Cl_ask_68 h (fun x68 t68 H locs h hP hS => ?_)
  refine lv_if_ne (tgt := 82) hx hb d_Cl_ask_71 (by decide) (fun hq => ?_) (fun hq => ?_)
  · rw [if_pos hq] at h
    exact tB_Cl_ask_82 Cx t68 H locs ls v0 v1 hP hS (lv_sub hl [1, 2] rfl) h
  · rw [if_neg (fun z => z hq)] at h
    refine lv_aload_n hx hb d_Cl_ask_74 rfl (lv_at hl 1 rfl) ?_
    refine ob_getR (k := 2) Cx hP ck_7 rfl w_f_Cl_27 d_Cl_ask_75 h (fun n75 h => ?_)
    refine lv_aload_n hx hb d_Cl_ask_78 rfl (lv_at hl 0 rfl) ?_
    refine ob_cVv (nA := 1) (As := [.ref (adK n63)]) (rest := []) Cx hl.1 hP hS (fun o ho => c_Wr_addSegment n75 n63 ho) (fun o ho => g_Wr_addSegment n75 n63 ho) (by decide) (rfl : ob_cl[4]? = _) mv_Wr_addSegment w_m_Cl_61 rfl (by decide +kernel) ⟨rfl, rfl⟩ ⟨by decide, by decide⟩ (Nat.le_of_ble_eq_true rfl) rfl d_Cl_ask_79 h (fun t79 H locs h hP hS => ?_)
    exact tB_Cl_ask_82 Cx t79 H locs ls v0 v1 hP hS (lv_sub hl [1, 2] rfl) h
set_option maxHeartbeats 4000000 in
set_option maxRecDepth 100000 in
theorem tB_Cl_ask_17 {p : Program} {l : Launch} {e : Env} {R : Room} {s : State} {m : MethodId} {args : Array Value} {below : List Frame} {meth : Method} {c : Code} {b : Nat} {D : va_G} {cA : Nat → ClassId} {adK adV : Nat → Nat} {out : ob_S} (Cx : ob_C p R s m args meth c cb_Cl_ask 4 "ObservedBlocks$Client" none b D cA adK adV 5 107) : ∀ (t : ob_S) (H : Heap) (locs : List Loc) (ls : Array Slot) (v0 : Nat) (v1 : Nat) (s0 : Int32) (s1 : Int32) (s2 : Nat), ob_H b D cA t H → va_S (ob_A b) s.heap H locs → lv_has ls 4 [(0, .ref (b + v0)), (1, .ref (b + v1))] → B_Cl_ask_17 v0 v1 s0 s1 s2 t = some out → W p l e R s m args below meth c H locs 0 0 (MQ below (ob_Qv b D cA out) args s 0 0 (ob_A b)) (F0 m 17 ls [.int s0, .int s1, .ref (b + s2)]) := by
  have hx := Cx.1.1
  have hb := Cx.1.2.1
  intro t H locs ls v0 v1 s0 s1 s2 hP hS hl h
  unfold B_Cl_ask_17 at h
  refine lv_aload_n hx hb d_Cl_ask_17 rfl (lv_at hl 0 rfl) ?_
  refine ob_getI (k := 3) Cx hP ck_7 rfl w_f_Cl_31 d_Cl_ask_18 h (fun x18 h => ?_)
  refine lv_aload_n hx hb d_Cl_ask_21 rfl (lv_at hl 1 rfl) ?_
  refine ob_getI (k := 3) Cx hP ck_6 rfl w_f_Cl_39 d_Cl_ask_22 h (fun x22 h => ?_)
  refine ob_cVv (nA := 4) (As := [.int s1, .int s0, .int x18, .int x22]) (rest := []) Cx hl.1 hP hS (fun o ho => c_Wr_begin s2 s1 s0 x18 x22 ho) (fun o ho => g_Wr_begin s2 s1 s0 x18 x22 ho) (by decide) (rfl : ob_cl[4]? = _) mv_Wr_begin w_m_Cl_42 rfl (by decide +kernel) ⟨rfl, rfl⟩ ⟨by decide, by decide⟩ (Nat.le_of_ble_eq_true rfl) rfl d_Cl_ask_25 h (fun t25 H locs h hP hS => ?_)
  refine lv_aload_n hx hb d_Cl_ask_28 rfl (lv_at hl 1 rfl) ?_
  refine ob_cVi (nA := 0) (As := []) (rest := []) Cx hl.1 hP hS (fun o ho => c_Sl_asksToWatch v1 ho) (fun o ho => g_Sl_asksToWatch v1 ho) (by decide) (rfl : ob_cl[6]? = _) mv_Sl_asksToWatch w_m_Cl_46 rfl (by decide +kernel) ⟨rfl, rfl⟩ ⟨by decide, by decide⟩ (Nat.le_of_ble_eq_true rfl) rfl d_Cl_ask_29 h (fun x29 t29 H locs h hP hS => ?_)
  refine lv_if_eq (tgt := 45) hx hb d_Cl_ask_32 (by decide) (fun hq => ?_) (fun hq => ?_)
  · rw [if_pos hq] at h
    exact tB_Cl_ask_45 Cx t29 H locs ls v0 v1 hP hS (lv_sub hl [0, 1] rfl) h
  · rw [if_neg hq] at h
    refine lv_aload_n hx hb d_Cl_ask_35 rfl (lv_at hl 0 rfl) ?_
    refine ob_getR (k := 2) Cx hP ck_7 rfl w_f_Cl_27 d_Cl_ask_36 h (fun n36 h => ?_)
    refine lv_bipush (v := 6) hx hb d_Cl_ask_39 (by decide) ?_
    refine lv_iconst (v := 0) hx hb d_Cl_ask_41 (by decide) ?_
    refine ob_cVv (nA := 2) (As := [.int (6 : Int32), .int (0 : Int32)]) (rest := []) Cx hl.1 hP hS (fun o ho => c_Wr_addNumber n36 (6 : Int32) (0 : Int32) ho) (fun o ho => g_Wr_addNumber n36 (6 : Int32) (0 : Int32) ho) (by decide) (rfl : ob_cl[4]? = _) mv_Wr_addNumber w_m_Cl_50 rfl (by decide +kernel) ⟨rfl, rfl⟩ ⟨by decide, by decide⟩ (Nat.le_of_ble_eq_true rfl) rfl d_Cl_ask_42 h (fun t42 H locs h hP hS => ?_)
    exact tB_Cl_ask_45 Cx t42 H locs ls v0 v1 hP hS (lv_sub hl [0, 1] rfl) h
theorem g_Cl_ask (v0 : Nat) (v1 : Nat) {t : ob_S} {out : ob_S} (h : X_Cl_ask v0 v1 t = some out) : v0 < ob_n t ∧ ob_k t v0 = 7 := by
  unfold X_Cl_ask ob_this at h
  by_cases q : v0 < ob_n t ∧ ob_k t v0 = 7
  · exact q
  · rw [if_neg q] at h
    cases h
set_option maxHeartbeats 4000000 in
set_option maxRecDepth 100000 in
theorem c_Cl_ask {l : Launch} {b : Nat} {D : va_G} {cA : Nat → ClassId} {adK adV : Nat → Nat} (v0 : Nat) (v1 : Nat) {t : ob_S} {out : ob_S} (h : X_Cl_ask v0 v1 t = some out) : Met l y_Cl_ask (Cond.code y_Cl_ask cb_Cl_ask 4 none :: ob_T) { frames := 5, cells := 0, slots := 0, locals := 107 } (ob_Pre b D cA adK adV [.ref (b + v0), .ref (b + v1)] t) (ob_Qv b D cA out) 0 0 (ob_A b) := by
  refine ob_met (by decide) (Nat.le_of_ble_eq_true rfl) ?_
  intro p e R s m args below meth c ls Cx hP hS hl
  have hl : lv_has ls 4 [(0, .ref (b + v0)), (1, .ref (b + v1))] := hl
  have hx := Cx.1.1
  have hb := Cx.1.2.1
  have hg := g_Cl_ask v0 v1 h
  unfold X_Cl_ask ob_this at h
  rw [if_pos hg] at h
  obtain ⟨H, hH⟩ : ∃ H, H = s.heap := ⟨_, rfl⟩
  obtain ⟨locs, hL⟩ : ∃ locs : List Loc, locs = [] := ⟨_, rfl⟩
  rw [← hH] at hP
  have hS : va_S (ob_A b) s.heap H locs := by rw [hH, hL]; exact hS
  suffices hW : W p l e R s m args below meth c H locs 0 0 (MQ below (ob_Qv b D cA out) args s 0 0 (ob_A b)) (F0 m 0 ls []) by rw [hH, hL] at hW; exact hW
  refine lv_aload_n hx hb d_Cl_ask_0 rfl (lv_at hl 0 rfl) ?_
  refine ob_getR (k := 2) Cx hP ck_7 rfl w_f_Cl_27 d_Cl_ask_1 h (fun n1 h => ?_)
  refine lv_iconst (v := 0) hx hb d_Cl_ask_4 (by decide) ?_
  refine lv_aload_n hx hb d_Cl_ask_5 rfl (lv_at hl 1 rfl) ?_
  refine ob_getI (k := 7) Cx hP ck_6 rfl w_f_Cl_35 d_Cl_ask_6 h (fun x6 h => ?_)
  refine lv_if_eq (tgt := 16) hx hb d_Cl_ask_9 (by decide) (fun hq => ?_) (fun hq => ?_)
  · rw [if_pos hq] at h
    refine lv_iconst (v := 1) hx hb d_Cl_ask_16 (by decide) ?_
    exact tB_Cl_ask_17 Cx t H locs ls v0 v1 (1 : Int32) (0 : Int32) n1 hP hS (lv_sub hl [0, 1] rfl) h
  · rw [if_neg hq] at h
    refine lv_iconst (v := 3) hx hb d_Cl_ask_12 (by decide) ?_
    refine lv_goto (tgt := 17) hx hb d_Cl_ask_13 (by decide) ?_
    exact tB_Cl_ask_17 Cx t H locs ls v0 v1 (3 : Int32) (0 : Int32) n1 hP hS (lv_sub hl [0, 1] rfl) h
theorem g_Ob_get (v0 : Nat) (v1 : Int32) (v2 : Int32) (v3 : Int32) (v4 : Int32) {t : ob_S} {out : (Int32 × ob_S)} (h : X_Ob_get v0 v1 v2 v3 v4 t = some out) : v0 < ob_n t ∧ ob_k t v0 = 10 := by
  unfold X_Ob_get ob_this at h
  by_cases q : v0 < ob_n t ∧ ob_k t v0 = 10
  · exact q
  · rw [if_neg q] at h
    cases h
set_option maxHeartbeats 4000000 in
set_option maxRecDepth 100000 in
theorem c_Ob_get {l : Launch} {b : Nat} {D : va_G} {cA : Nat → ClassId} {adK adV : Nat → Nat} (v0 : Nat) (v1 : Int32) (v2 : Int32) (v3 : Int32) (v4 : Int32) {t : ob_S} {out : (Int32 × ob_S)} (h : X_Ob_get v0 v1 v2 v3 v4 t = some out) : Met l y_Ob_get (Cond.code y_Ob_get cb_Ob_get 6 (some .int) :: ob_T) { frames := 6, cells := 0, slots := 0, locals := 130 } (ob_Pre b D cA adK adV [.ref (b + v0), .int v1, .int v2, .int v3, .int v4] t) (ob_Qi b D cA out) 0 0 (ob_A b) := by
  refine ob_met (by decide) (Nat.le_of_ble_eq_true rfl) ?_
  intro p e R s m args below meth c ls Cx hP hS hl
  have hl : lv_has ls 6 [(0, .ref (b + v0)), (1, .int v1), (2, .int v2), (3, .int v3), (4, .int v4)] := hl
  have hx := Cx.1.1
  have hb := Cx.1.2.1
  have hg := g_Ob_get v0 v1 v2 v3 v4 h
  unfold X_Ob_get ob_this at h
  rw [if_pos hg] at h
  obtain ⟨H, hH⟩ : ∃ H, H = s.heap := ⟨_, rfl⟩
  obtain ⟨locs, hL⟩ : ∃ locs : List Loc, locs = [] := ⟨_, rfl⟩
  rw [← hH] at hP
  have hS : va_S (ob_A b) s.heap H locs := by rw [hH, hL]; exact hS
  suffices hW : W p l e R s m args below meth c H locs 0 0 (MQ below (ob_Qi b D cA out) args s 0 0 (ob_A b)) (F0 m 0 ls []) by rw [hH, hL] at hW; exact hW
  refine lv_iload_n hx hb d_Ob_get_0 rfl (lv_at hl 1 rfl) ?_
  refine lv_iload_n hx hb d_Ob_get_1 rfl (lv_at hl 2 rfl) ?_
  refine lv_iload_n hx hb d_Ob_get_2 rfl (lv_at hl 3 rfl) ?_
  refine ob_cSi (nA := 3) (As := [.int v1, .int v2, .int v3]) (rest := []) Cx hl.1 hP hS (fun o ho => c_Ob_isAskable v1 v2 v3 ho) ms_Ob_isAskable w_m_Ob_43 rfl (by decide +kernel) ⟨rfl, rfl⟩ ⟨by decide, by decide⟩ (Nat.le_of_ble_eq_true rfl) rfl d_Ob_get_3 h (fun x3 t3 H locs h hP hS => ?_)
  refine lv_if_ne (tgt := 11) hx hb d_Ob_get_6 (by decide) (fun hq => ?_) (fun hq => ?_)
  · rw [if_pos hq] at h
    refine lv_aload_n hx hb d_Ob_get_11 rfl (lv_at hl 0 rfl) ?_
    refine ob_getR (k := 1) Cx hP ck_10 rfl w_f_Ob_21 d_Ob_get_12 h (fun n12 h => ?_)
    refine ob_getR (k := 0) Cx hP ck_7 rfl w_f_Ob_47 d_Ob_get_15 h (fun n15 h => ?_)
    refine lv_iload_n hx hb d_Ob_get_18 rfl (lv_at hl 1 rfl) ?_
    refine ob_aldR (kd := 15) Cx hP (by decide) rfl d_Ob_get_19 h (fun n19 h => ?_)
    refine lv_astore (lv' := [(5, .ref (b + n19)), (0, .ref (b + v0)), (1, .int v1), (2, .int v2), (3, .int v3), (4, .int v4)]) hx hb d_Ob_get_20 hl (by decide) rfl (fun ls hl => ?_)
    refine lv_aload hx hb d_Ob_get_22 (lv_at hl 0 rfl) ?_
    refine ob_getI (k := 2) Cx hP ck_6 rfl w_f_Ob_51 d_Ob_get_24 h (fun x24 h => ?_)
    refine lv_if_eq (tgt := 33) hx hb d_Ob_get_27 (by decide) (fun hq => ?_) (fun hq => ?_)
    · rw [if_pos hq] at h
      refine lv_aload hx hb d_Ob_get_33 (lv_at hl 0 rfl) ?_
      refine lv_iload_n hx hb d_Ob_get_35 rfl (lv_at hl 3 rfl) ?_
      refine lv_iload_n hx hb d_Ob_get_36 rfl (lv_at hl 4 rfl) ?_
      refine lv_iconst (v := 0) hx hb d_Ob_get_37 (by decide) ?_
      refine lv_iload hx hb d_Ob_get_38 (lv_at hl 5 rfl) ?_
      refine ob_cVv (nA := 4) (As := [.int v2, .int v3, .int (0 : Int32), .int v4]) (rest := []) Cx hl.1 hP hS (fun o ho => c_Sl_begin n19 v2 v3 (0 : Int32) v4 ho) (fun o ho => g_Sl_begin n19 v2 v3 (0 : Int32) v4 ho) (by decide) (rfl : ob_cl[6]? = _) mv_Sl_begin w_m_Ob_56 rfl (by decide +kernel) ⟨rfl, rfl⟩ ⟨by decide, by decide⟩ (Nat.le_of_ble_eq_true rfl) rfl d_Ob_get_40 h (fun t40 H locs h hP hS => ?_)
      refine lv_aload_n hx hb d_Ob_get_43 rfl (lv_at hl 1 rfl) ?_
      refine ob_getR (k := 1) Cx hP ck_10 rfl w_f_Ob_21 d_Ob_get_44 h (fun n44 h => ?_)
      refine lv_aload hx hb d_Ob_get_47 (lv_at hl 0 rfl) ?_
      refine ob_cVv (nA := 1) (As := [.ref (b + n19)]) (rest := []) Cx hl.1 hP hS (fun o ho => c_Cl_ask n44 n19 ho) (fun o ho => g_Cl_ask n44 n19 ho) (by decide) (rfl : ob_cl[7]? = _) mv_Cl_ask w_m_Ob_60 rfl (by decide +kernel) ⟨rfl, rfl⟩ ⟨by decide, by decide⟩ (Nat.le_of_ble_eq_true rfl) rfl d_Ob_get_49 h (fun t49 H locs h hP hS => ?_)
      refine lv_aload hx hb d_Ob_get_52 (lv_at hl 0 rfl) ?_
      refine ob_getI (k := 3) Cx hP ck_6 rfl w_f_Ob_64 d_Ob_get_54 h (fun x54 h => ?_)
      exact ob_iret Cx hP hS d_Ob_get_57 h
    · rw [if_neg hq] at h
      refine lv_bipush (v := -2) hx hb d_Ob_get_30 (by decide) ?_
      exact ob_iret Cx hP hS d_Ob_get_32 h
  · rw [if_neg (fun z => z hq)] at h
    refine lv_iconst (v := -1) hx hb d_Ob_get_9 (by decide) ?_
    exact ob_iret Cx hP hS d_Ob_get_10 h
set_option maxHeartbeats 4000000 in
set_option maxRecDepth 100000 in
theorem tB_By_fill_6 {p : Program} {l : Launch} {e : Env} {R : Room} {s : State} {m : MethodId} {args : Array Value} {below : List Frame} {meth : Method} {c : Code} {b : Nat} {D : va_G} {cA : Nat → ClassId} {adK adV : Nat → Nat} {out : ob_S} (Cx : ob_C p R s m args meth c cb_By_fill 4 "ObservedBlocks$Bytes" none b D cA adK adV 1 21) : ∀ (fu : Nat), ∀ (t : ob_S) (H : Heap) (locs : List Loc) (ls : Array Slot) (v0 : Nat) (v1 : Int32) (v2 : Int32) (v3 : Int32), ob_H b D cA t H → va_S (ob_A b) s.heap H locs → lv_has ls 4 [(0, .ref (b + v0)), (1, .int v1), (2, .int v2), (3, .int v3)] → B_By_fill_6 fu v0 v1 v2 v3 t = some out → W p l e R s m args below meth c H locs 0 0 (MQ below (ob_Qv b D cA out) args s 0 0 (ob_A b)) (F0 m 6 ls []) := by
  have hx := Cx.1.1
  have hb := Cx.1.2.1
  intro fu
  induction fu with
  | zero =>
    intro t H locs ls v0 v1 v2 v3 hP hS hl h
    cases h
  | succ fu ih =>
    intro t H locs ls v0 v1 v2 v3 hP hS hl h
    rw [B_By_fill_6] at h
    refine lv_iload_n hx hb d_By_fill_6 rfl (lv_at hl 3 rfl) ?_
    refine lv_iload_n hx hb d_By_fill_7 rfl (lv_at hl 1 rfl) ?_
    refine lv_icmp_ge (tgt := 26) hx hb d_By_fill_8 (by decide) (fun hq => ?_) (fun hq => ?_)
    · rw [if_pos hq] at h
      exact ob_vret Cx hP hS d_By_fill_26 h
    · rw [if_neg hq] at h
      refine lv_aload_n hx hb d_By_fill_11 rfl (lv_at hl 0 rfl) ?_
      refine lv_iload_n hx hb d_By_fill_12 rfl (lv_at hl 2 rfl) ?_
      refine lv_iconst (v := 5) hx hb d_By_fill_13 (by decide) ?_
      refine lv_iload_n hx hb d_By_fill_14 rfl (lv_at hl 3 rfl) ?_
      refine lv_imul hx hb d_By_fill_15 ?_
      refine lv_iadd hx hb d_By_fill_16 ?_
      refine ob_cVv (nA := 1) (As := [.int (v2 + ((5 : Int32) * v3))]) (rest := []) Cx hl.1 hP hS (fun o ho => c_By_add v0 (v2 + ((5 : Int32) * v3)) ho) (fun o ho => g_By_add v0 (v2 + ((5 : Int32) * v3)) ho) (by decide) (rfl : ob_cl[0]? = _) mv_By_add w_m_By_38 rfl (by decide +kernel) ⟨rfl, rfl⟩ ⟨by decide, by decide⟩ (Nat.le_of_ble_eq_true rfl) rfl d_By_fill_17 h (fun t17 H locs h hP hS => ?_)
      refine lv_iinc (v := (v3 + (1 : Int32))) (lv' := [(3, .int (v3 + (1 : Int32))), (0, .ref (b + v0)), (1, .int v1), (2, .int v2)]) hx hb d_By_fill_20 hl (k := 3) rfl rfl (by decide) rfl (fun ls hl => ?_)
      refine lv_goto (tgt := 6) hx hb d_By_fill_23 (by decide) ?_
      exact ih t17 H locs ls v0 v1 v2 (v3 + (1 : Int32)) hP hS (lv_sub hl [1, 2, 3, 0] rfl) h
theorem g_By_fill (v0 : Nat) (v1 : Int32) (v2 : Int32) {t : ob_S} {out : ob_S} (h : X_By_fill v0 v1 v2 t = some out) : v0 < ob_n t ∧ ob_k t v0 = 0 := by
  unfold X_By_fill ob_this at h
  by_cases q : v0 < ob_n t ∧ ob_k t v0 = 0
  · exact q
  · rw [if_neg q] at h
    cases h
set_option maxHeartbeats 4000000 in
set_option maxRecDepth 100000 in
theorem c_By_fill {l : Launch} {b : Nat} {D : va_G} {cA : Nat → ClassId} {adK adV : Nat → Nat} (v0 : Nat) (v1 : Int32) (v2 : Int32) {t : ob_S} {out : ob_S} (h : X_By_fill v0 v1 v2 t = some out) : Met l y_By_fill (Cond.code y_By_fill cb_By_fill 4 none :: ob_T) { frames := 1, cells := 0, slots := 0, locals := 21 } (ob_Pre b D cA adK adV [.ref (b + v0), .int v1, .int v2] t) (ob_Qv b D cA out) 0 0 (ob_A b) := by
  refine ob_met (by decide) (Nat.le_of_ble_eq_true rfl) ?_
  intro p e R s m args below meth c ls Cx hP hS hl
  have hl : lv_has ls 4 [(0, .ref (b + v0)), (1, .int v1), (2, .int v2)] := hl
  have hx := Cx.1.1
  have hb := Cx.1.2.1
  have hg := g_By_fill v0 v1 v2 h
  unfold X_By_fill ob_this at h
  rw [if_pos hg] at h
  obtain ⟨H, hH⟩ : ∃ H, H = s.heap := ⟨_, rfl⟩
  obtain ⟨locs, hL⟩ : ∃ locs : List Loc, locs = [] := ⟨_, rfl⟩
  rw [← hH] at hP
  have hS : va_S (ob_A b) s.heap H locs := by rw [hH, hL]; exact hS
  suffices hW : W p l e R s m args below meth c H locs 0 0 (MQ below (ob_Qv b D cA out) args s 0 0 (ob_A b)) (F0 m 0 ls []) by rw [hH, hL] at hW; exact hW
  refine lv_aload_n hx hb d_By_fill_0 rfl (lv_at hl 0 rfl) ?_
  refine ob_cVv (nA := 0) (As := []) (rest := []) Cx hl.1 hP hS (fun o ho => c_By_clear v0 ho) (fun o ho => g_By_clear v0 ho) (by decide) (rfl : ob_cl[0]? = _) mv_By_clear w_m_By_35 rfl (by decide +kernel) ⟨rfl, rfl⟩ ⟨by decide, by decide⟩ (Nat.le_of_ble_eq_true rfl) rfl d_By_fill_1 h (fun t1 H locs h hP hS => ?_)
  refine lv_iconst (v := 0) hx hb d_By_fill_4 (by decide) ?_
  refine lv_istore_n (lv' := [(3, .int (0 : Int32)), (0, .ref (b + v0)), (1, .int v1), (2, .int v2)]) hx hb d_By_fill_5 rfl hl (by decide) rfl (fun ls hl => ?_)
  exact tB_By_fill_6 Cx ob_fu t1 H locs ls v0 v1 v2 (0 : Int32) hP hS (lv_sub hl [1, 2, 3, 0] rfl) h
set_option maxHeartbeats 4000000 in
set_option maxRecDepth 100000 in
theorem tB_Ob_put_19 {p : Program} {l : Launch} {e : Env} {R : Room} {s : State} {m : MethodId} {args : Array Value} {below : List Frame} {meth : Method} {c : Code} {b : Nat} {D : va_G} {cA : Nat → ClassId} {adK adV : Nat → Nat} {out : (Int32 × ob_S)} (Cx : ob_C p R s m args meth c cb_Ob_put 7 "ObservedBlocks" (some .int) b D cA adK adV 6 130) : ∀ (t : ob_S) (H : Heap) (locs : List Loc) (ls : Array Slot), ob_H b D cA t H → va_S (ob_A b) s.heap H locs → lv_has ls 7 [] → B_Ob_put_19 t = some out → W p l e R s m args below meth c H locs 0 0 (MQ below (ob_Qi b D cA out) args s 0 0 (ob_A b)) (F0 m 19 ls []) := by
  have hx := Cx.1.1
  have hb := Cx.1.2.1
  intro t H locs ls  hP hS hl h
  unfold B_Ob_put_19 at h
  refine lv_iconst (v := -1) hx hb d_Ob_put_19 (by decide) ?_
  exact ob_iret Cx hP hS d_Ob_put_20 h
theorem g_Ob_put (v0 : Nat) (v1 : Int32) (v2 : Int32) (v3 : Int32) (v4 : Int32) (v5 : Int32) {t : ob_S} {out : (Int32 × ob_S)} (h : X_Ob_put v0 v1 v2 v3 v4 v5 t = some out) : v0 < ob_n t ∧ ob_k t v0 = 10 := by
  unfold X_Ob_put ob_this at h
  by_cases q : v0 < ob_n t ∧ ob_k t v0 = 10
  · exact q
  · rw [if_neg q] at h
    cases h
set_option maxHeartbeats 4000000 in
set_option maxRecDepth 100000 in
theorem c_Ob_put {l : Launch} {b : Nat} {D : va_G} {cA : Nat → ClassId} {adK adV : Nat → Nat} (v0 : Nat) (v1 : Int32) (v2 : Int32) (v3 : Int32) (v4 : Int32) (v5 : Int32) {t : ob_S} {out : (Int32 × ob_S)} (h : X_Ob_put v0 v1 v2 v3 v4 v5 t = some out) : Met l y_Ob_put (Cond.code y_Ob_put cb_Ob_put 7 (some .int) :: ob_T) { frames := 6, cells := 0, slots := 0, locals := 130 } (ob_Pre b D cA adK adV [.ref (b + v0), .int v1, .int v2, .int v3, .int v4, .int v5] t) (ob_Qi b D cA out) 0 0 (ob_A b) := by
  refine ob_met (by decide) (Nat.le_of_ble_eq_true rfl) ?_
  intro p e R s m args below meth c ls Cx hP hS hl
  have hl : lv_has ls 7 [(0, .ref (b + v0)), (1, .int v1), (2, .int v2), (3, .int v3), (4, .int v4), (5, .int v5)] := hl
  have hx := Cx.1.1
  have hb := Cx.1.2.1
  have hg := g_Ob_put v0 v1 v2 v3 v4 v5 h
  unfold X_Ob_put ob_this at h
  rw [if_pos hg] at h
  obtain ⟨H, hH⟩ : ∃ H, H = s.heap := ⟨_, rfl⟩
  obtain ⟨locs, hL⟩ : ∃ locs : List Loc, locs = [] := ⟨_, rfl⟩
  rw [← hH] at hP
  have hS : va_S (ob_A b) s.heap H locs := by rw [hH, hL]; exact hS
  suffices hW : W p l e R s m args below meth c H locs 0 0 (MQ below (ob_Qi b D cA out) args s 0 0 (ob_A b)) (F0 m 0 ls []) by rw [hH, hL] at hW; exact hW
  refine lv_iload_n hx hb d_Ob_put_0 rfl (lv_at hl 1 rfl) ?_
  refine lv_iload_n hx hb d_Ob_put_1 rfl (lv_at hl 2 rfl) ?_
  refine lv_iload_n hx hb d_Ob_put_2 rfl (lv_at hl 3 rfl) ?_
  refine ob_cSi (nA := 3) (As := [.int v1, .int v2, .int v3]) (rest := []) Cx hl.1 hP hS (fun o ho => c_Ob_isAskable v1 v2 v3 ho) ms_Ob_isAskable w_m_Ob_43 rfl (by decide +kernel) ⟨rfl, rfl⟩ ⟨by decide, by decide⟩ (Nat.le_of_ble_eq_true rfl) rfl d_Ob_put_3 h (fun x3 t3 H locs h hP hS => ?_)
  refine lv_if_eq (tgt := 19) hx hb d_Ob_put_6 (by decide) (fun hq => ?_) (fun hq => ?_)
  · rw [if_pos hq] at h
    exact tB_Ob_put_19 Cx t3 H locs ls hP hS (lv_sub hl [] rfl) h
  · rw [if_neg hq] at h
    refine lv_iload hx hb d_Ob_put_9 (lv_at hl 4 rfl) ?_
    refine lv_bipush (v := 80) hx hb d_Ob_put_11 (by decide) ?_
    refine ob_cSi (nA := 2) (As := [.int v4, .int (80 : Int32)]) (rest := []) Cx hl.1 hP hS (fun o ho => c_Ob_isWithin v4 (80 : Int32) ho) ms_Ob_isWithin w_m_Ob_67 rfl (by decide +kernel) ⟨rfl, rfl⟩ ⟨by decide, by decide⟩ (Nat.le_of_ble_eq_true rfl) rfl d_Ob_put_13 h (fun x13 t13 H locs h hP hS => ?_)
    refine lv_if_ne (tgt := 21) hx hb d_Ob_put_16 (by decide) (fun hq => ?_) (fun hq => ?_)
    · rw [if_pos hq] at h
      refine lv_aload_n hx hb d_Ob_put_21 rfl (lv_at hl 0 rfl) ?_
      refine ob_getR (k := 1) Cx hP ck_10 rfl w_f_Ob_21 d_Ob_put_22 h (fun n22 h => ?_)
      refine ob_getR (k := 0) Cx hP ck_7 rfl w_f_Ob_47 d_Ob_put_25 h (fun n25 h => ?_)
      refine lv_iload_n hx hb d_Ob_put_28 rfl (lv_at hl 1 rfl) ?_
      refine ob_aldR (kd := 15) Cx hP (by decide) rfl d_Ob_put_29 h (fun n29 h => ?_)
      refine lv_astore (lv' := [(6, .ref (b + n29)), (0, .ref (b + v0)), (1, .int v1), (2, .int v2), (3, .int v3), (4, .int v4), (5, .int v5)]) hx hb d_Ob_put_30 hl (by decide) rfl (fun ls hl => ?_)
      refine lv_aload hx hb d_Ob_put_32 (lv_at hl 0 rfl) ?_
      refine ob_getI (k := 2) Cx hP ck_6 rfl w_f_Ob_51 d_Ob_put_34 h (fun x34 h => ?_)
      refine lv_if_eq (tgt := 43) hx hb d_Ob_put_37 (by decide) (fun hq => ?_) (fun hq => ?_)
      · rw [if_pos hq] at h
        refine lv_aload hx hb d_Ob_put_43 (lv_at hl 0 rfl) ?_
        refine lv_iload_n hx hb d_Ob_put_45 rfl (lv_at hl 3 rfl) ?_
        refine lv_iload_n hx hb d_Ob_put_46 rfl (lv_at hl 4 rfl) ?_
        refine lv_iconst (v := 1) hx hb d_Ob_put_47 (by decide) ?_
        refine lv_iconst (v := 0) hx hb d_Ob_put_48 (by decide) ?_
        refine ob_cVv (nA := 4) (As := [.int v2, .int v3, .int (1 : Int32), .int (0 : Int32)]) (rest := []) Cx hl.1 hP hS (fun o ho => c_Sl_begin n29 v2 v3 (1 : Int32) (0 : Int32) ho) (fun o ho => g_Sl_begin n29 v2 v3 (1 : Int32) (0 : Int32) ho) (by decide) (rfl : ob_cl[6]? = _) mv_Sl_begin w_m_Ob_56 rfl (by decide +kernel) ⟨rfl, rfl⟩ ⟨by decide, by decide⟩ (Nat.le_of_ble_eq_true rfl) rfl d_Ob_put_49 h (fun t49 H locs h hP hS => ?_)
        refine lv_aload hx hb d_Ob_put_52 (lv_at hl 0 rfl) ?_
        refine ob_getR (k := 0) Cx hP ck_6 rfl w_f_Ob_71 d_Ob_put_54 h (fun n54 h => ?_)
        refine lv_iload hx hb d_Ob_put_57 (lv_at hl 5 rfl) ?_
        refine lv_iload hx hb d_Ob_put_59 (lv_at hl 6 rfl) ?_
        refine ob_cVv (nA := 2) (As := [.int v4, .int v5]) (rest := []) Cx hl.1 hP hS (fun o ho => c_By_fill n54 v4 v5 ho) (fun o ho => g_By_fill n54 v4 v5 ho) (by decide) (rfl : ob_cl[0]? = _) mv_By_fill w_m_Ob_75 rfl (by decide +kernel) ⟨rfl, rfl⟩ ⟨by decide, by decide⟩ (Nat.le_of_ble_eq_true rfl) rfl d_Ob_put_61 h (fun t61 H locs h hP hS => ?_)
        refine lv_aload_n hx hb d_Ob_put_64 rfl (lv_at hl 1 rfl) ?_
        refine ob_getR (k := 1) Cx hP ck_10 rfl w_f_Ob_21 d_Ob_put_65 h (fun n65 h => ?_)
        refine lv_aload hx hb d_Ob_put_68 (lv_at hl 0 rfl) ?_
        refine ob_cVv (nA := 1) (As := [.ref (b + n29)]) (rest := []) Cx hl.1 hP hS (fun o ho => c_Cl_ask n65 n29 ho) (fun o ho => g_Cl_ask n65 n29 ho) (by decide) (rfl : ob_cl[7]? = _) mv_Cl_ask w_m_Ob_60 rfl (by decide +kernel) ⟨rfl, rfl⟩ ⟨by decide, by decide⟩ (Nat.le_of_ble_eq_true rfl) rfl d_Ob_put_70 h (fun t70 H locs h hP hS => ?_)
        refine lv_aload hx hb d_Ob_put_73 (lv_at hl 0 rfl) ?_
        refine ob_getI (k := 3) Cx hP ck_6 rfl w_f_Ob_64 d_Ob_put_75 h (fun x75 h => ?_)
        exact ob_iret Cx hP hS d_Ob_put_78 h
      · rw [if_neg hq] at h
        refine lv_bipush (v := -2) hx hb d_Ob_put_40 (by decide) ?_
        exact ob_iret Cx hP hS d_Ob_put_42 h
    · rw [if_neg (fun z => z hq)] at h
      exact tB_Ob_put_19 Cx t13 H locs ls hP hS (lv_sub hl [] rfl) h
theorem g_Pe_stop (v0 : Nat) {t : ob_S} {out : ob_S} (h : X_Pe_stop v0 t = some out) : v0 < ob_n t ∧ ob_k t v0 = 3 := by
  unfold X_Pe_stop ob_this at h
  by_cases q : v0 < ob_n t ∧ ob_k t v0 = 3
  · exact q
  · rw [if_neg q] at h
    cases h
set_option maxHeartbeats 4000000 in
set_option maxRecDepth 100000 in
theorem c_Pe_stop {l : Launch} {b : Nat} {D : va_G} {cA : Nat → ClassId} {adK adV : Nat → Nat} (v0 : Nat) {t : ob_S} {out : ob_S} (h : X_Pe_stop v0 t = some out) : Met l y_Pe_stop (Cond.code y_Pe_stop cb_Pe_stop 1 none :: ob_T) { frames := 0, cells := 0, slots := 0, locals := 0 } (ob_Pre b D cA adK adV [.ref (b + v0)] t) (ob_Qv b D cA out) 0 0 (ob_A b) := by
  refine ob_met (by decide) (Nat.le_of_ble_eq_true rfl) ?_
  intro p e R s m args below meth c ls Cx hP hS hl
  have hl : lv_has ls 1 [(0, .ref (b + v0))] := hl
  have hx := Cx.1.1
  have hb := Cx.1.2.1
  have hg := g_Pe_stop v0 h
  unfold X_Pe_stop ob_this at h
  rw [if_pos hg] at h
  obtain ⟨H, hH⟩ : ∃ H, H = s.heap := ⟨_, rfl⟩
  obtain ⟨locs, hL⟩ : ∃ locs : List Loc, locs = [] := ⟨_, rfl⟩
  rw [← hH] at hP
  have hS : va_S (ob_A b) s.heap H locs := by rw [hH, hL]; exact hS
  suffices hW : W p l e R s m args below meth c H locs 0 0 (MQ below (ob_Qv b D cA out) args s 0 0 (ob_A b)) (F0 m 0 ls []) by rw [hH, hL] at hW; exact hW
  refine lv_aload_n hx hb d_Pe_stop_0 rfl (lv_at hl 0 rfl) ?_
  refine lv_iconst (v := 0) hx hb d_Pe_stop_1 (by decide) ?_
  refine ob_putZ (k := 2) Cx hP hS ck_3 rfl rfl rfl w_f_Pe_20 d_Pe_stop_2 h (fun t2 H locs h hP hS => ?_)
  exact ob_vret Cx hP hS d_Pe_stop_5 h
theorem g_Sl_end (v0 : Nat) {t : ob_S} {out : ob_S} (h : X_Sl_end v0 t = some out) : v0 < ob_n t ∧ ob_k t v0 = 6 := by
  unfold X_Sl_end ob_this at h
  by_cases q : v0 < ob_n t ∧ ob_k t v0 = 6
  · exact q
  · rw [if_neg q] at h
    cases h
set_option maxHeartbeats 4000000 in
set_option maxRecDepth 100000 in
theorem c_Sl_end {l : Launch} {b : Nat} {D : va_G} {cA : Nat → ClassId} {adK adV : Nat → Nat} (v0 : Nat) {t : ob_S} {out : ob_S} (h : X_Sl_end v0 t = some out) : Met l y_Sl_end (Cond.code y_Sl_end cb_Sl_end 1 none :: ob_T) { frames := 1, cells := 0, slots := 0, locals := 20 } (ob_Pre b D cA adK adV [.ref (b + v0)] t) (ob_Qv b D cA out) 0 0 (ob_A b) := by
  refine ob_met (by decide) (Nat.le_of_ble_eq_true rfl) ?_
  intro p e R s m args below meth c ls Cx hP hS hl
  have hl : lv_has ls 1 [(0, .ref (b + v0))] := hl
  have hx := Cx.1.1
  have hb := Cx.1.2.1
  have hg := g_Sl_end v0 h
  unfold X_Sl_end ob_this at h
  rw [if_pos hg] at h
  obtain ⟨H, hH⟩ : ∃ H, H = s.heap := ⟨_, rfl⟩
  obtain ⟨locs, hL⟩ : ∃ locs : List Loc, locs = [] := ⟨_, rfl⟩
  rw [← hH] at hP
  have hS : va_S (ob_A b) s.heap H locs := by rw [hH, hL]; exact hS
  suffices hW : W p l e R s m args below meth c H locs 0 0 (MQ below (ob_Qv b D cA out) args s 0 0 (ob_A b)) (F0 m 0 ls []) by rw [hH, hL] at hW; exact hW
  refine lv_aload_n hx hb d_Sl_end_0 rfl (lv_at hl 0 rfl) ?_
  refine ob_getR (k := 1) Cx hP ck_6 rfl w_f_Sl_23 d_Sl_end_1 h (fun n1 h => ?_)
  refine ob_cVv (nA := 0) (As := []) (rest := []) Cx hl.1 hP hS (fun o ho => c_Pe_stop n1 ho) (fun o ho => g_Pe_stop n1 ho) (by decide) (rfl : ob_cl[3]? = _) mv_Pe_stop w_m_Sl_68 rfl (by decide +kernel) ⟨rfl, rfl⟩ ⟨by decide, by decide⟩ (Nat.le_of_ble_eq_true rfl) rfl d_Sl_end_4 h (fun t4 H locs h hP hS => ?_)
  refine lv_aload_n hx hb d_Sl_end_7 rfl (lv_at hl 0 rfl) ?_
  refine lv_iconst (v := 0) hx hb d_Sl_end_8 (by decide) ?_
  refine ob_putI (k := 2) Cx hP hS ck_6 rfl rfl rfl w_f_Sl_34 d_Sl_end_9 h (fun t9 H locs h hP hS => ?_)
  exact ob_vret Cx hP hS d_Sl_end_12 h
theorem g_Ob_free (v0 : Nat) (v1 : Int32) {t : ob_S} {out : (Int32 × ob_S)} (h : X_Ob_free v0 v1 t = some out) : v0 < ob_n t ∧ ob_k t v0 = 10 := by
  unfold X_Ob_free ob_this at h
  by_cases q : v0 < ob_n t ∧ ob_k t v0 = 10
  · exact q
  · rw [if_neg q] at h
    cases h
set_option maxHeartbeats 4000000 in
set_option maxRecDepth 100000 in
theorem c_Ob_free {l : Launch} {b : Nat} {D : va_G} {cA : Nat → ClassId} {adK adV : Nat → Nat} (v0 : Nat) (v1 : Int32) {t : ob_S} {out : (Int32 × ob_S)} (h : X_Ob_free v0 v1 t = some out) : Met l y_Ob_free (Cond.code y_Ob_free cb_Ob_free 2 (some .int) :: ob_T) { frames := 2, cells := 0, slots := 0, locals := 40 } (ob_Pre b D cA adK adV [.ref (b + v0), .int v1] t) (ob_Qi b D cA out) 0 0 (ob_A b) := by
  refine ob_met (by decide) (Nat.le_of_ble_eq_true rfl) ?_
  intro p e R s m args below meth c ls Cx hP hS hl
  have hl : lv_has ls 2 [(0, .ref (b + v0)), (1, .int v1)] := hl
  have hx := Cx.1.1
  have hb := Cx.1.2.1
  have hg := g_Ob_free v0 v1 h
  unfold X_Ob_free ob_this at h
  rw [if_pos hg] at h
  obtain ⟨H, hH⟩ : ∃ H, H = s.heap := ⟨_, rfl⟩
  obtain ⟨locs, hL⟩ : ∃ locs : List Loc, locs = [] := ⟨_, rfl⟩
  rw [← hH] at hP
  have hS : va_S (ob_A b) s.heap H locs := by rw [hH, hL]; exact hS
  suffices hW : W p l e R s m args below meth c H locs 0 0 (MQ below (ob_Qi b D cA out) args s 0 0 (ob_A b)) (F0 m 0 ls []) by rw [hH, hL] at hW; exact hW
  refine lv_iload_n hx hb d_Ob_free_0 rfl (lv_at hl 1 rfl) ?_
  refine lv_iconst (v := 1) hx hb d_Ob_free_1 (by decide) ?_
  refine ob_cSi (nA := 2) (As := [.int v1, .int (1 : Int32)]) (rest := []) Cx hl.1 hP hS (fun o ho => c_Ob_isWithin v1 (1 : Int32) ho) ms_Ob_isWithin w_m_Ob_67 rfl (by decide +kernel) ⟨rfl, rfl⟩ ⟨by decide, by decide⟩ (Nat.le_of_ble_eq_true rfl) rfl d_Ob_free_2 h (fun x2 t2 H locs h hP hS => ?_)
  refine lv_if_ne (tgt := 10) hx hb d_Ob_free_5 (by decide) (fun hq => ?_) (fun hq => ?_)
  · rw [if_pos hq] at h
    refine lv_aload_n hx hb d_Ob_free_10 rfl (lv_at hl 0 rfl) ?_
    refine ob_getR (k := 1) Cx hP ck_10 rfl w_f_Ob_21 d_Ob_free_11 h (fun n11 h => ?_)
    refine ob_getR (k := 0) Cx hP ck_7 rfl w_f_Ob_47 d_Ob_free_14 h (fun n14 h => ?_)
    refine lv_iload_n hx hb d_Ob_free_17 rfl (lv_at hl 1 rfl) ?_
    refine ob_aldR (kd := 15) Cx hP (by decide) rfl d_Ob_free_18 h (fun n18 h => ?_)
    refine ob_getI (k := 2) Cx hP ck_6 rfl w_f_Ob_51 d_Ob_free_19 h (fun x19 h => ?_)
    refine lv_if_ne (tgt := 28) hx hb d_Ob_free_22 (by decide) (fun hq => ?_) (fun hq => ?_)
    · rw [if_pos hq] at h
      refine lv_aload_n hx hb d_Ob_free_28 rfl (lv_at hl 0 rfl) ?_
      refine ob_getR (k := 1) Cx hP ck_10 rfl w_f_Ob_21 d_Ob_free_29 h (fun n29 h => ?_)
      refine ob_getR (k := 0) Cx hP ck_7 rfl w_f_Ob_47 d_Ob_free_32 h (fun n32 h => ?_)
      refine lv_iload_n hx hb d_Ob_free_35 rfl (lv_at hl 1 rfl) ?_
      refine ob_aldR (kd := 15) Cx hP (by decide) rfl d_Ob_free_36 h (fun n36 h => ?_)
      refine ob_cVv (nA := 0) (As := []) (rest := []) Cx hl.1 hP hS (fun o ho => c_Sl_end n36 ho) (fun o ho => g_Sl_end n36 ho) (by decide) (rfl : ob_cl[6]? = _) mv_Sl_end w_m_Ob_81 rfl (by decide +kernel) ⟨rfl, rfl⟩ ⟨by decide, by decide⟩ (Nat.le_of_ble_eq_true rfl) rfl d_Ob_free_37 h (fun t37 H locs h hP hS => ?_)
      refine lv_iconst (v := 0) hx hb d_Ob_free_40 (by decide) ?_
      exact ob_iret Cx hP hS d_Ob_free_41 h
    · rw [if_neg (fun z => z hq)] at h
      refine lv_bipush (v := -2) hx hb d_Ob_free_25 (by decide) ?_
      exact ob_iret Cx hP hS d_Ob_free_27 h
  · rw [if_neg (fun z => z hq)] at h
    refine lv_iconst (v := -1) hx hb d_Ob_free_8 (by decide) ?_
    exact ob_iret Cx hP hS d_Ob_free_9 h
theorem g_Pe_isActive (v0 : Nat) {t : ob_S} {out : (Int32 × ob_S)} (h : X_Pe_isActive v0 t = some out) : v0 < ob_n t ∧ ob_k t v0 = 3 := by
  unfold X_Pe_isActive ob_this at h
  by_cases q : v0 < ob_n t ∧ ob_k t v0 = 3
  · exact q
  · rw [if_neg q] at h
    cases h
set_option maxHeartbeats 4000000 in
set_option maxRecDepth 100000 in
theorem c_Pe_isActive {l : Launch} {b : Nat} {D : va_G} {cA : Nat → ClassId} {adK adV : Nat → Nat} (v0 : Nat) {t : ob_S} {out : (Int32 × ob_S)} (h : X_Pe_isActive v0 t = some out) : Met l y_Pe_isActive (Cond.code y_Pe_isActive cb_Pe_isActive 1 (some .boolean) :: ob_T) { frames := 0, cells := 0, slots := 0, locals := 0 } (ob_Pre b D cA adK adV [.ref (b + v0)] t) (ob_Qi b D cA out) 0 0 (ob_A b) := by
  refine ob_met (by decide) (Nat.le_of_ble_eq_true rfl) ?_
  intro p e R s m args below meth c ls Cx hP hS hl
  have hl : lv_has ls 1 [(0, .ref (b + v0))] := hl
  have hx := Cx.1.1
  have hb := Cx.1.2.1
  have hg := g_Pe_isActive v0 h
  unfold X_Pe_isActive ob_this at h
  rw [if_pos hg] at h
  obtain ⟨H, hH⟩ : ∃ H, H = s.heap := ⟨_, rfl⟩
  obtain ⟨locs, hL⟩ : ∃ locs : List Loc, locs = [] := ⟨_, rfl⟩
  rw [← hH] at hP
  have hS : va_S (ob_A b) s.heap H locs := by rw [hH, hL]; exact hS
  suffices hW : W p l e R s m args below meth c H locs 0 0 (MQ below (ob_Qi b D cA out) args s 0 0 (ob_A b)) (F0 m 0 ls []) by rw [hH, hL] at hW; exact hW
  refine lv_aload_n hx hb d_Pe_isActive_0 rfl (lv_at hl 0 rfl) ?_
  refine ob_getI (k := 2) Cx hP ck_3 rfl w_f_Pe_20 d_Pe_isActive_1 h (fun x1 h => ?_)
  exact ob_zret Cx hP hS d_Pe_isActive_4 h
set_option maxHeartbeats 4000000 in
set_option maxRecDepth 100000 in
theorem tB_Se_blockIn_25 {p : Program} {l : Launch} {e : Env} {R : Room} {s : State} {m : MethodId} {args : Array Value} {below : List Frame} {meth : Method} {c : Code} {b : Nat} {D : va_G} {cA : Nat → ClassId} {adK adV : Nat → Nat} {out : (Int32 × ob_S)} (Cx : ob_C p R s m args meth c cb_Se_blockIn 5 "ObservedBlocks$Server" (some .int) b D cA adK adV 1 22) : ∀ (t : ob_S) (H : Heap) (locs : List Loc) (ls : Array Slot) (v2 : Int32) (v3 : Int32) (s0 : Int32), ob_H b D cA t H → va_S (ob_A b) s.heap H locs → lv_has ls 5 [(2, .int v2), (3, .int v3)] → B_Se_blockIn_25 v2 v3 s0 t = some out → W p l e R s m args below meth c H locs 0 0 (MQ below (ob_Qi b D cA out) args s 0 0 (ob_A b)) (F0 m 25 ls [.int s0]) := by
  have hx := Cx.1.1
  have hb := Cx.1.2.1
  intro t H locs ls v2 v3 s0 hP hS hl h
  unfold B_Se_blockIn_25 at h
  refine lv_istore (lv' := [(4, .int s0), (2, .int v2), (3, .int v3)]) hx hb d_Se_blockIn_25 hl (by decide) rfl (fun ls hl => ?_)
  refine lv_iload_n hx hb d_Se_blockIn_27 rfl (lv_at hl 1 rfl) ?_
  refine lv_iload hx hb d_Se_blockIn_28 (lv_at hl 0 rfl) ?_
  refine lv_iload_n hx hb d_Se_blockIn_30 rfl (lv_at hl 2 rfl) ?_
  refine ob_cNi (nA := 3) (As := [.int v2, .int s0, .int v3]) (rest := []) Cx hl.1 hP hS (fun o ho => c_Ob_blockOf v2 s0 v3 ho) ms_Ob_blockOf w_n_Se_179 rfl (by decide +kernel) ⟨rfl, rfl⟩ ⟨by decide, by decide⟩ (Nat.le_of_ble_eq_true rfl) rfl d_Se_blockIn_31 h (fun x31 t31 H locs h hP hS => ?_)
  exact ob_iret Cx hP hS d_Se_blockIn_34 h
theorem g_Se_blockIn (v0 : Nat) (v1 : Int32) (v2 : Int32) (v3 : Int32) {t : ob_S} {out : (Int32 × ob_S)} (h : X_Se_blockIn v0 v1 v2 v3 t = some out) : v0 < ob_n t ∧ ob_k t v0 = 9 := by
  unfold X_Se_blockIn ob_this at h
  by_cases q : v0 < ob_n t ∧ ob_k t v0 = 9
  · exact q
  · rw [if_neg q] at h
    cases h
set_option maxHeartbeats 4000000 in
set_option maxRecDepth 100000 in
theorem c_Se_blockIn {l : Launch} {b : Nat} {D : va_G} {cA : Nat → ClassId} {adK adV : Nat → Nat} (v0 : Nat) (v1 : Int32) (v2 : Int32) (v3 : Int32) {t : ob_S} {out : (Int32 × ob_S)} (h : X_Se_blockIn v0 v1 v2 v3 t = some out) : Met l y_Se_blockIn (Cond.code y_Se_blockIn cb_Se_blockIn 5 (some .int) :: ob_T) { frames := 1, cells := 0, slots := 0, locals := 22 } (ob_Pre b D cA adK adV [.ref (b + v0), .int v1, .int v2, .int v3] t) (ob_Qi b D cA out) 0 0 (ob_A b) := by
  refine ob_met (by decide) (Nat.le_of_ble_eq_true rfl) ?_
  intro p e R s m args below meth c ls Cx hP hS hl
  have hl : lv_has ls 5 [(0, .ref (b + v0)), (1, .int v1), (2, .int v2), (3, .int v3)] := hl
  have hx := Cx.1.1
  have hb := Cx.1.2.1
  have hg := g_Se_blockIn v0 v1 v2 v3 h
  unfold X_Se_blockIn ob_this at h
  rw [if_pos hg] at h
  obtain ⟨H, hH⟩ : ∃ H, H = s.heap := ⟨_, rfl⟩
  obtain ⟨locs, hL⟩ : ∃ locs : List Loc, locs = [] := ⟨_, rfl⟩
  rw [← hH] at hP
  have hS : va_S (ob_A b) s.heap H locs := by rw [hH, hL]; exact hS
  suffices hW : W p l e R s m args below meth c H locs 0 0 (MQ below (ob_Qi b D cA out) args s 0 0 (ob_A b)) (F0 m 0 ls []) by rw [hH, hL] at hW; exact hW
  refine lv_aload_n hx hb d_Se_blockIn_0 rfl (lv_at hl 0 rfl) ?_
  refine ob_getR (k := 0) Cx hP ck_9 rfl w_f_Se_11 d_Se_blockIn_1 h (fun n1 h => ?_)
  refine lv_iload_n hx hb d_Se_blockIn_4 rfl (lv_at hl 1 rfl) ?_
  refine ob_aldR (kd := 14) Cx hP (by decide) rfl d_Se_blockIn_5 h (fun n5 h => ?_)
  refine ob_getI (k := 1) Cx hP ck_0 rfl w_f_Se_52 d_Se_blockIn_6 h (fun x6 h => ?_)
  refine lv_iload_n hx hb d_Se_blockIn_9 rfl (lv_at hl 2 rfl) ?_
  refine lv_iconst (v := 1) hx hb d_Se_blockIn_10 (by decide) ?_
  refine lv_iadd hx hb d_Se_blockIn_11 ?_
  refine lv_iload_n hx hb d_Se_blockIn_12 rfl (lv_at hl 3 rfl) ?_
  refine ob_cNi (nA := 1) (As := [.int v3]) (rest := [.int (v2 + (1 : Int32)), .int x6]) Cx hl.1 hP hS (fun o ho => c_Ob_sizeOf v3 ho) ms_Ob_sizeOf w_n_Se_133 rfl (by decide +kernel) ⟨rfl, rfl⟩ ⟨by decide, by decide⟩ (Nat.le_of_ble_eq_true rfl) rfl d_Se_blockIn_13 h (fun x13 t13 H locs h hP hS => ?_)
  refine lv_imul hx hb d_Se_blockIn_16 ?_
  refine lv_icmp_le (tgt := 24) hx hb d_Se_blockIn_17 (by decide) (fun hq => ?_) (fun hq => ?_)
  · rw [if_pos hq] at h
    refine lv_iconst (v := 0) hx hb d_Se_blockIn_24 (by decide) ?_
    exact tB_Se_blockIn_25 Cx t13 H locs ls v2 v3 (0 : Int32) hP hS (lv_sub hl [2, 3] rfl) h
  · rw [if_neg hq] at h
    refine lv_iconst (v := 1) hx hb d_Se_blockIn_20 (by decide) ?_
    refine lv_goto (tgt := 25) hx hb d_Se_blockIn_21 (by decide) ?_
    exact tB_Se_blockIn_25 Cx t13 H locs ls v2 v3 (1 : Int32) hP hS (lv_sub hl [2, 3] rfl) h
theorem g_Se_tell (v0 : Nat) (v1 : Nat) {t : ob_S} {out : ob_S} (h : X_Se_tell v0 v1 t = some out) : v0 < ob_n t ∧ ob_k t v0 = 9 := by
  unfold X_Se_tell ob_this at h
  by_cases q : v0 < ob_n t ∧ ob_k t v0 = 9
  · exact q
  · rw [if_neg q] at h
    cases h
set_option maxHeartbeats 4000000 in
set_option maxRecDepth 100000 in
theorem c_Se_tell {l : Launch} {b : Nat} {D : va_G} {cA : Nat → ClassId} {adK adV : Nat → Nat} (v0 : Nat) (v1 : Nat) {t : ob_S} {out : ob_S} (h : X_Se_tell v0 v1 t = some out) : Met l y_Se_tell (Cond.code y_Se_tell cb_Se_tell 2 none :: ob_T) { frames := 3, cells := 0, slots := 0, locals := 75 } (ob_Pre b D cA adK adV [.ref (b + v0), .ref (b + v1)] t) (ob_Qv b D cA out) 0 0 (ob_A b) := by
  refine ob_met (by decide) (Nat.le_of_ble_eq_true rfl) ?_
  intro p e R s m args below meth c ls Cx hP hS hl
  have hl : lv_has ls 2 [(0, .ref (b + v0)), (1, .ref (b + v1))] := hl
  have hx := Cx.1.1
  have hb := Cx.1.2.1
  have hg := g_Se_tell v0 v1 h
  unfold X_Se_tell ob_this at h
  rw [if_pos hg] at h
  obtain ⟨H, hH⟩ : ∃ H, H = s.heap := ⟨_, rfl⟩
  obtain ⟨locs, hL⟩ : ∃ locs : List Loc, locs = [] := ⟨_, rfl⟩
  rw [← hH] at hP
  have hS : va_S (ob_A b) s.heap H locs := by rw [hH, hL]; exact hS
  suffices hW : W p l e R s m args below meth c H locs 0 0 (MQ below (ob_Qv b D cA out) args s 0 0 (ob_A b)) (F0 m 0 ls []) by rw [hH, hL] at hW; exact hW
  refine lv_aload_n hx hb d_Se_tell_0 rfl (lv_at hl 1 rfl) ?_
  refine ob_getR (k := 0) Cx hP ck_5 rfl w_f_Se_190 d_Se_tell_1 h (fun n1 h => ?_)
  refine ob_cVi (nA := 0) (As := []) (rest := []) Cx hl.1 hP hS (fun o ho => c_Pe_isActive n1 ho) (fun o ho => g_Pe_isActive n1 ho) (by decide) (rfl : ob_cl[3]? = _) mv_Pe_isActive w_m_Se_206 rfl (by decide +kernel) ⟨rfl, rfl⟩ ⟨by decide, by decide⟩ (Nat.le_of_ble_eq_true rfl) rfl d_Se_tell_4 h (fun x4 t4 H locs h hP hS => ?_)
  refine lv_if_eq (tgt := 16) hx hb d_Se_tell_7 (by decide) (fun hq => ?_) (fun hq => ?_)
  · rw [if_pos hq] at h
    refine lv_aload_n hx hb d_Se_tell_16 rfl (lv_at hl 1 rfl) ?_
    refine lv_iconst (v := 0) hx hb d_Se_tell_17 (by decide) ?_
    refine ob_putZ (k := 4) Cx hP hS ck_5 rfl rfl rfl w_f_Se_210 d_Se_tell_18 h (fun t18 H locs h hP hS => ?_)
    refine lv_aload_n hx hb d_Se_tell_21 rfl (lv_at hl 0 rfl) ?_
    refine lv_aload_n hx hb d_Se_tell_22 rfl (lv_at hl 0 rfl) ?_
    refine ob_getI (k := 3) Cx hP ck_9 rfl w_f_Se_160 d_Se_tell_23 h (fun x23 h => ?_)
    refine ob_cNi (nA := 1) (As := [.int x23]) (rest := [.ref (b + v0)]) Cx hl.1 hP hS (fun o ho => c_Ob_following x23 ho) ms_Ob_following w_n_Se_163 rfl (by decide +kernel) ⟨rfl, rfl⟩ ⟨by decide, by decide⟩ (Nat.le_of_ble_eq_true rfl) rfl d_Se_tell_26 h (fun x26 t26 H locs h hP hS => ?_)
    refine ob_putI (k := 3) Cx hP hS ck_9 rfl rfl rfl w_f_Se_160 d_Se_tell_29 h (fun t29 H locs h hP hS => ?_)
    refine lv_aload_n hx hb d_Se_tell_32 rfl (lv_at hl 0 rfl) ?_
    refine ob_getR (k := 8) Cx hP ck_9 rfl w_f_Se_44 d_Se_tell_33 h (fun n33 h => ?_)
    refine lv_iconst (v := 0) hx hb d_Se_tell_36 (by decide) ?_
    refine lv_bipush (v := 69) hx hb d_Se_tell_37 (by decide) ?_
    refine lv_aload_n hx hb d_Se_tell_39 rfl (lv_at hl 0 rfl) ?_
    refine ob_getI (k := 9) Cx hP ck_9 rfl w_f_Se_48 d_Se_tell_40 h (fun x40 h => ?_)
    refine lv_aload_n hx hb d_Se_tell_43 rfl (lv_at hl 1 rfl) ?_
    refine ob_getI (k := 1) Cx hP ck_5 rfl w_f_Se_186 d_Se_tell_44 h (fun x44 h => ?_)
    refine ob_cVv (nA := 4) (As := [.int (0 : Int32), .int (69 : Int32), .int x40, .int x44]) (rest := []) Cx hl.1 hP hS (fun o ho => c_Wr_begin n33 (0 : Int32) (69 : Int32) x40 x44 ho) (fun o ho => g_Wr_begin n33 (0 : Int32) (69 : Int32) x40 x44 ho) (by decide) (rfl : ob_cl[4]? = _) mv_Wr_begin w_m_Se_90 rfl (by decide +kernel) ⟨rfl, rfl⟩ ⟨by decide, by decide⟩ (Nat.le_of_ble_eq_true rfl) rfl d_Se_tell_47 h (fun t47 H locs h hP hS => ?_)
    refine lv_aload_n hx hb d_Se_tell_50 rfl (lv_at hl 0 rfl) ?_
    refine ob_getR (k := 8) Cx hP ck_9 rfl w_f_Se_44 d_Se_tell_51 h (fun n51 h => ?_)
    refine lv_bipush (v := 6) hx hb d_Se_tell_54 (by decide) ?_
    refine lv_aload_n hx hb d_Se_tell_56 rfl (lv_at hl 0 rfl) ?_
    refine ob_getI (k := 3) Cx hP ck_9 rfl w_f_Se_160 d_Se_tell_57 h (fun x57 h => ?_)
    refine ob_cVv (nA := 2) (As := [.int (6 : Int32), .int x57]) (rest := []) Cx hl.1 hP hS (fun o ho => c_Wr_addNumber n51 (6 : Int32) x57 ho) (fun o ho => g_Wr_addNumber n51 (6 : Int32) x57 ho) (by decide) (rfl : ob_cl[4]? = _) mv_Wr_addNumber w_m_Se_101 rfl (by decide +kernel) ⟨rfl, rfl⟩ ⟨by decide, by decide⟩ (Nat.le_of_ble_eq_true rfl) rfl d_Se_tell_60 h (fun t60 H locs h hP hS => ?_)
    refine lv_aload_n hx hb d_Se_tell_63 rfl (lv_at hl 0 rfl) ?_
    refine ob_getR (k := 8) Cx hP ck_9 rfl w_f_Se_44 d_Se_tell_64 h (fun n64 h => ?_)
    refine lv_bipush (v := 23) hx hb d_Se_tell_67 (by decide) ?_
    refine lv_aload_n hx hb d_Se_tell_69 rfl (lv_at hl 0 rfl) ?_
    refine lv_aload_n hx hb d_Se_tell_70 rfl (lv_at hl 1 rfl) ?_
    refine ob_getI (k := 2) Cx hP ck_5 rfl w_f_Se_199 d_Se_tell_71 h (fun x71 h => ?_)
    refine lv_iconst (v := 0) hx hb d_Se_tell_74 (by decide) ?_
    refine lv_aload_n hx hb d_Se_tell_75 rfl (lv_at hl 1 rfl) ?_
    refine ob_getI (k := 3) Cx hP ck_5 rfl w_f_Se_214 d_Se_tell_76 h (fun x76 h => ?_)
    refine ob_cVi (nA := 3) (As := [.int x71, .int (0 : Int32), .int x76]) (rest := [.int (23 : Int32), .ref (b + n64)]) Cx hl.1 hP hS (fun o ho => c_Se_blockIn v0 x71 (0 : Int32) x76 ho) (fun o ho => g_Se_blockIn v0 x71 (0 : Int32) x76 ho) (by decide) (rfl : ob_cl[9]? = _) mv_Se_blockIn w_m_Se_172 rfl (by decide +kernel) ⟨rfl, rfl⟩ ⟨by decide, by decide⟩ (Nat.le_of_ble_eq_true rfl) rfl d_Se_tell_79 h (fun x79 t79 H locs h hP hS => ?_)
    refine ob_cVv (nA := 2) (As := [.int (23 : Int32), .int x79]) (rest := []) Cx hl.1 hP hS (fun o ho => c_Wr_addNumber n64 (23 : Int32) x79 ho) (fun o ho => g_Wr_addNumber n64 (23 : Int32) x79 ho) (by decide) (rfl : ob_cl[4]? = _) mv_Wr_addNumber w_m_Se_101 rfl (by decide +kernel) ⟨rfl, rfl⟩ ⟨by decide, by decide⟩ (Nat.le_of_ble_eq_true rfl) rfl d_Se_tell_82 h (fun t82 H locs h hP hS => ?_)
    refine lv_aload_n hx hb d_Se_tell_85 rfl (lv_at hl 0 rfl) ?_
    refine ob_getR (k := 8) Cx hP ck_9 rfl w_f_Se_44 d_Se_tell_86 h (fun n86 h => ?_)
    refine lv_aload_n hx hb d_Se_tell_89 rfl (lv_at hl 0 rfl) ?_
    refine ob_getR (k := 0) Cx hP ck_9 rfl w_f_Se_11 d_Se_tell_90 h (fun n90 h => ?_)
    refine lv_aload_n hx hb d_Se_tell_93 rfl (lv_at hl 1 rfl) ?_
    refine ob_getI (k := 2) Cx hP ck_5 rfl w_f_Se_199 d_Se_tell_94 h (fun x94 h => ?_)
    refine ob_aldR (kd := 14) Cx hP (by decide) rfl d_Se_tell_97 h (fun n97 h => ?_)
    refine lv_iconst (v := 0) hx hb d_Se_tell_98 (by decide) ?_
    refine lv_aload_n hx hb d_Se_tell_99 rfl (lv_at hl 1 rfl) ?_
    refine ob_getI (k := 3) Cx hP ck_5 rfl w_f_Se_214 d_Se_tell_100 h (fun x100 h => ?_)
    refine ob_cNi (nA := 1) (As := [.int x100]) (rest := [.int (0 : Int32), .ref (b + n97), .ref (b + n86)]) Cx hl.1 hP hS (fun o ho => c_Ob_sizeOf x100 ho) ms_Ob_sizeOf w_n_Se_133 rfl (by decide +kernel) ⟨rfl, rfl⟩ ⟨by decide, by decide⟩ (Nat.le_of_ble_eq_true rfl) rfl d_Se_tell_103 h (fun x103 t103 H locs h hP hS => ?_)
    refine ob_cVv (nA := 3) (As := [.ref (b + n97), .int (0 : Int32), .int x103]) (rest := []) Cx hl.1 hP hS (fun o ho => c_Wr_addPayload n86 n97 (0 : Int32) x103 ho) (fun o ho => g_Wr_addPayload n86 n97 (0 : Int32) x103 ho) (by decide) (rfl : ob_cl[4]? = _) mv_Wr_addPayload w_m_Se_176 rfl (by decide +kernel) ⟨rfl, rfl⟩ ⟨by decide, by decide⟩ (Nat.le_of_ble_eq_true rfl) rfl d_Se_tell_106 h (fun t106 H locs h hP hS => ?_)
    refine lv_aload_n hx hb d_Se_tell_109 rfl (lv_at hl 1 rfl) ?_
    refine ob_getR (k := 0) Cx hP ck_5 rfl w_f_Se_190 d_Se_tell_110 h (fun n110 h => ?_)
    refine lv_aload_n hx hb d_Se_tell_113 rfl (lv_at hl 0 rfl) ?_
    refine ob_getI (k := 9) Cx hP ck_9 rfl w_f_Se_48 d_Se_tell_114 h (fun x114 h => ?_)
    refine lv_aload_n hx hb d_Se_tell_117 rfl (lv_at hl 0 rfl) ?_
    refine ob_getR (k := 8) Cx hP ck_9 rfl w_f_Se_44 d_Se_tell_118 h (fun n118 h => ?_)
    refine ob_getR (k := 0) Cx hP ck_4 rfl w_f_Se_105 d_Se_tell_121 h (fun n121 h => ?_)
    refine ob_cVv (nA := 2) (As := [.int x114, .ref (b + n121)]) (rest := []) Cx hl.1 hP hS (fun o ho => c_Pe_start n110 x114 n121 ho) (fun o ho => g_Pe_start n110 x114 n121 ho) (by decide) (rfl : ob_cl[3]? = _) mv_Pe_start w_m_Se_217 rfl (by decide +kernel) ⟨rfl, rfl⟩ ⟨by decide, by decide⟩ (Nat.le_of_ble_eq_true rfl) rfl d_Se_tell_124 h (fun t124 H locs h hP hS => ?_)
    refine lv_aload_n hx hb d_Se_tell_127 rfl (lv_at hl 0 rfl) ?_
    refine lv_aload_n hx hb d_Se_tell_128 rfl (lv_at hl 0 rfl) ?_
    refine ob_getI (k := 9) Cx hP ck_9 rfl w_f_Se_48 d_Se_tell_129 h (fun x129 h => ?_)
    refine ob_cNi (nA := 1) (As := [.int x129]) (rest := [.ref (b + v0)]) Cx hl.1 hP hS (fun o ho => c_Ob_following x129 ho) ms_Ob_following w_n_Se_163 rfl (by decide +kernel) ⟨rfl, rfl⟩ ⟨by decide, by decide⟩ (Nat.le_of_ble_eq_true rfl) rfl d_Se_tell_132 h (fun x132 t132 H locs h hP hS => ?_)
    refine ob_putI (k := 9) Cx hP hS ck_9 rfl rfl rfl w_f_Se_48 d_Se_tell_135 h (fun t135 H locs h hP hS => ?_)
    refine lv_aload_n hx hb d_Se_tell_138 rfl (lv_at hl 0 rfl) ?_
    refine ob_getR (k := 7) Cx hP ck_9 rfl w_f_Se_37 d_Se_tell_139 h (fun n139 h => ?_)
    refine lv_aload_n hx hb d_Se_tell_142 rfl (lv_at hl 0 rfl) ?_
    refine ob_getR (k := 8) Cx hP ck_9 rfl w_f_Se_44 d_Se_tell_143 h (fun n143 h => ?_)
    refine ob_getR (k := 0) Cx hP ck_4 rfl w_f_Se_105 d_Se_tell_146 h (fun n146 h => ?_)
    refine lv_iconst (v := 0) hx hb d_Se_tell_149 (by decide) ?_
    refine ob_cVv (nA := 2) (As := [.ref (b + n146), .int (0 : Int32)]) (rest := []) Cx hl.1 hP hS (fun o ho => c_Li_send n139 n146 (0 : Int32) ho) (fun o ho => g_Li_send n139 n146 (0 : Int32) ho) (by decide) (rfl : ob_cl[1]? = _) mv_Li_send w_m_Se_67 rfl (by decide +kernel) ⟨rfl, rfl⟩ ⟨by decide, by decide⟩ (Nat.le_of_ble_eq_true rfl) rfl d_Se_tell_150 h (fun t150 H locs h hP hS => ?_)
    exact ob_vret Cx hP hS d_Se_tell_153 h
  · rw [if_neg hq] at h
    refine lv_aload_n hx hb d_Se_tell_10 rfl (lv_at hl 1 rfl) ?_
    refine lv_iconst (v := 1) hx hb d_Se_tell_11 (by decide) ?_
    refine ob_putZ (k := 4) Cx hP hS ck_5 rfl rfl rfl w_f_Se_210 d_Se_tell_12 h (fun t12 H locs h hP hS => ?_)
    exact ob_vret Cx hP hS d_Se_tell_15 h

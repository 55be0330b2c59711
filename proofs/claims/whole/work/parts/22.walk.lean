set_option maxHeartbeats 4000000 in
set_option maxRecDepth 100000 in
theorem tB_Mo_answerGet_138 {p : Program} {l : Launch} {e : Env} {R : Room} {s : State} {m : MethodId} {args : Array Value} {below : List Frame} {meth : Method} {c : Code} {b : Nat} {D : va_G} {cA : Nat → ClassId} {adK adV : Nat → Nat} {out : ob_S} (Cx : ob_C p R s m args meth c cb_Mo_answerGet 6 "ObservedBlocksModel" none b D cA adK adV 3 68) : ∀ (t : ob_S) (H : Heap) (locs : List Loc) (ls : Array Slot) (v0 : Nat) (v1 : Int32) (v2 : Int32) (v3 : Int32), ob_H b D cA t H → va_S (ob_A b) s.heap H locs → lv_has ls 6 [(0, .ref (b + v0)), (1, .int v1), (2, .int v2), (3, .int v3)] → B_Mo_answerGet_138 v0 v1 v2 v3 t = some out → W p l e R s m args below meth c H locs 0 0 (MQ below (ob_Qv b D cA out) args s 0 0 (ob_A b)) (F0 m 138 ls []) := by
  have hx := Cx.1.1
  have hb := Cx.1.2.1
  intro t H locs ls v0 v1 v2 v3 hP hS hl h
  unfold B_Mo_answerGet_138 at h
  refine lv_aload_n hx hb d_Mo_answerGet_138 rfl (lv_at hl 0 rfl) ?_
  refine lv_bipush (v := 23) hx hb d_Mo_answerGet_139 (by decide) ?_
  refine lv_bipush (v := 16) hx hb d_Mo_answerGet_141 (by decide) ?_
  refine lv_iload_n hx hb d_Mo_answerGet_143 rfl (lv_at hl 2 rfl) ?_
  refine lv_imul hx hb d_Mo_answerGet_144 ?_
  refine lv_bipush (v := 8) hx hb d_Mo_answerGet_145 (by decide) ?_
  refine lv_aload_n hx hb d_Mo_answerGet_147 rfl (lv_at hl 0 rfl) ?_
  refine ob_getR (k := 29) Cx hP ck_11 rfl w_f_Mo_93 d_Mo_answerGet_148 h (fun n148 h => ?_)
  refine lv_iload_n hx hb d_Mo_answerGet_151 rfl (lv_at hl 1 rfl) ?_
  refine ob_aldI Cx hP d_Mo_answerGet_152 h (fun x152 h => ?_)
  refine lv_iload_n hx hb d_Mo_answerGet_153 rfl (lv_at hl 2 rfl) ?_
  refine lv_iload_n hx hb d_Mo_answerGet_154 rfl (lv_at hl 3 rfl) ?_
  refine ob_cSi (nA := 3) (As := [.int x152, .int v2, .int v3]) (rest := [.int (8 : Int32), .int ((16 : Int32) * v2), .int (23 : Int32), .ref (b + v0)]) Cx hl.1 hP hS (fun o ho => c_Mo_more x152 v2 v3 ho) ms_Mo_more w_m_Mo_215 rfl (by decide +kernel) ⟨rfl, rfl⟩ ⟨by decide, by decide⟩ (Nat.le_of_ble_eq_true rfl) rfl d_Mo_answerGet_155 h (fun x155 t155 H locs h hP hS => ?_)
  refine lv_imul hx hb d_Mo_answerGet_158 ?_
  refine lv_iadd hx hb d_Mo_answerGet_159 ?_
  refine lv_iload_n hx hb d_Mo_answerGet_160 rfl (lv_at hl 3 rfl) ?_
  refine lv_iadd hx hb d_Mo_answerGet_161 ?_
  refine ob_cVv (nA := 2) (As := [.int (23 : Int32), .int ((((16 : Int32) * v2) + ((8 : Int32) * x155)) + v3)]) (rest := []) Cx hl.1 hP hS (fun o ho => c_Mo_option v0 (23 : Int32) ((((16 : Int32) * v2) + ((8 : Int32) * x155)) + v3) ho) (fun o ho => g_Mo_option v0 (23 : Int32) ((((16 : Int32) * v2) + ((8 : Int32) * x155)) + v3) ho) (by decide) (rfl : ob_cl[11]? = _) mv_Mo_option w_m_Mo_209 rfl (by decide +kernel) ⟨rfl, rfl⟩ ⟨by decide, by decide⟩ (Nat.le_of_ble_eq_true rfl) rfl d_Mo_answerGet_162 h (fun t162 H locs h hP hS => ?_)
  refine lv_aload_n hx hb d_Mo_answerGet_165 rfl (lv_at hl 0 rfl) ?_
  refine lv_iload_n hx hb d_Mo_answerGet_166 rfl (lv_at hl 1 rfl) ?_
  refine lv_iload_n hx hb d_Mo_answerGet_167 rfl (lv_at hl 2 rfl) ?_
  refine lv_iload_n hx hb d_Mo_answerGet_168 rfl (lv_at hl 3 rfl) ?_
  refine ob_cVv (nA := 3) (As := [.int v1, .int v2, .int v3]) (rest := []) Cx hl.1 hP hS (fun o ho => c_Mo_writeContent v0 v1 v2 v3 ho) (fun o ho => g_Mo_writeContent v0 v1 v2 v3 ho) (by decide) (rfl : ob_cl[11]? = _) mv_Mo_writeContent w_m_Mo_248 rfl (by decide +kernel) ⟨rfl, rfl⟩ ⟨by decide, by decide⟩ (Nat.le_of_ble_eq_true rfl) rfl d_Mo_answerGet_169 h (fun t169 H locs h hP hS => ?_)
  exact ob_vret Cx hP hS d_Mo_answerGet_172 h
set_option maxHeartbeats 4000000 in
set_option maxRecDepth 100000 in
theorem tB_Mo_answerGet_104 {p : Program} {l : Launch} {e : Env} {R : Room} {s : State} {m : MethodId} {args : Array Value} {below : List Frame} {meth : Method} {c : Code} {b : Nat} {D : va_G} {cA : Nat → ClassId} {adK adV : Nat → Nat} {out : ob_S} (Cx : ob_C p R s m args meth c cb_Mo_answerGet 6 "ObservedBlocksModel" none b D cA adK adV 3 68) : ∀ (t : ob_S) (H : Heap) (locs : List Loc) (ls : Array Slot) (v0 : Nat) (v1 : Int32) (v2 : Int32) (v3 : Int32) (v4 : Int32), ob_H b D cA t H → va_S (ob_A b) s.heap H locs → lv_has ls 6 [(0, .ref (b + v0)), (1, .int v1), (2, .int v2), (3, .int v3), (4, .int v4)] → B_Mo_answerGet_104 v0 v1 v2 v3 v4 t = some out → W p l e R s m args below meth c H locs 0 0 (MQ below (ob_Qv b D cA out) args s 0 0 (ob_A b)) (F0 m 104 ls []) := by
  have hx := Cx.1.1
  have hb := Cx.1.2.1
  intro t H locs ls v0 v1 v2 v3 v4 hP hS hl h
  unfold B_Mo_answerGet_104 at h
  refine lv_aload_n hx hb d_Mo_answerGet_104 rfl (lv_at hl 0 rfl) ?_
  refine lv_iconst (v := 2) hx hb d_Mo_answerGet_105 (by decide) ?_
  refine lv_bipush (v := 69) hx hb d_Mo_answerGet_106 (by decide) ?_
  refine lv_aload_n hx hb d_Mo_answerGet_108 rfl (lv_at hl 0 rfl) ?_
  refine ob_getI (k := 51) Cx hP ck_11 rfl w_f_Mo_197 d_Mo_answerGet_109 h (fun x109 h => ?_)
  refine ob_cVv (nA := 3) (As := [.int (2 : Int32), .int (69 : Int32), .int x109]) (rest := []) Cx hl.1 hP hS (fun o ho => c_Mo_begin v0 (2 : Int32) (69 : Int32) x109 ho) (fun o ho => g_Mo_begin v0 (2 : Int32) (69 : Int32) x109 ho) (by decide) (rfl : ob_cl[11]? = _) mv_Mo_begin w_m_Mo_162 rfl (by decide +kernel) ⟨rfl, rfl⟩ ⟨by decide, by decide⟩ (Nat.le_of_ble_eq_true rfl) rfl d_Mo_answerGet_112 h (fun t112 H locs h hP hS => ?_)
  refine lv_aload_n hx hb d_Mo_answerGet_115 rfl (lv_at hl 0 rfl) ?_
  refine lv_aload_n hx hb d_Mo_answerGet_116 rfl (lv_at hl 0 rfl) ?_
  refine ob_getI (k := 52) Cx hP ck_11 rfl w_f_Mo_188 d_Mo_answerGet_117 h (fun x117 h => ?_)
  refine ob_cVv (nA := 1) (As := [.int x117]) (rest := []) Cx hl.1 hP hS (fun o ho => c_Mo_write v0 x117 ho) (fun o ho => g_Mo_write v0 x117 ho) (by decide) (rfl : ob_cl[11]? = _) mv_Mo_write w_m_Mo_144 rfl (by decide +kernel) ⟨rfl, rfl⟩ ⟨by decide, by decide⟩ (Nat.le_of_ble_eq_true rfl) rfl d_Mo_answerGet_120 h (fun t120 H locs h hP hS => ?_)
  refine lv_iload hx hb d_Mo_answerGet_123 (lv_at hl 4 rfl) ?_
  refine lv_if_eq (tgt := 138) hx hb d_Mo_answerGet_125 (by decide) (fun hq => ?_) (fun hq => ?_)
  · rw [if_pos hq] at h
    exact tB_Mo_answerGet_138 Cx t120 H locs ls v0 v1 v2 v3 hP hS (lv_sub hl [0, 1, 2, 3] rfl) h
  · rw [if_neg hq] at h
    refine lv_aload_n hx hb d_Mo_answerGet_128 rfl (lv_at hl 0 rfl) ?_
    refine lv_bipush (v := 6) hx hb d_Mo_answerGet_129 (by decide) ?_
    refine lv_aload_n hx hb d_Mo_answerGet_131 rfl (lv_at hl 0 rfl) ?_
    refine ob_getI (k := 37) Cx hP ck_11 rfl w_f_Mo_245 d_Mo_answerGet_132 h (fun x132 h => ?_)
    refine ob_cVv (nA := 2) (As := [.int (6 : Int32), .int x132]) (rest := []) Cx hl.1 hP hS (fun o ho => c_Mo_option v0 (6 : Int32) x132 ho) (fun o ho => g_Mo_option v0 (6 : Int32) x132 ho) (by decide) (rfl : ob_cl[11]? = _) mv_Mo_option w_m_Mo_209 rfl (by decide +kernel) ⟨rfl, rfl⟩ ⟨by decide, by decide⟩ (Nat.le_of_ble_eq_true rfl) rfl d_Mo_answerGet_135 h (fun t135 H locs h hP hS => ?_)
    exact tB_Mo_answerGet_138 Cx t135 H locs ls v0 v1 v2 v3 hP hS (lv_sub hl [0, 1, 2, 3] rfl) h
set_option maxHeartbeats 4000000 in
set_option maxRecDepth 100000 in
theorem tB_Mo_answerGet_56 {p : Program} {l : Launch} {e : Env} {R : Room} {s : State} {m : MethodId} {args : Array Value} {below : List Frame} {meth : Method} {c : Code} {b : Nat} {D : va_G} {cA : Nat → ClassId} {adK adV : Nat → Nat} {out : ob_S} (Cx : ob_C p R s m args meth c cb_Mo_answerGet 6 "ObservedBlocksModel" none b D cA adK adV 3 68) : ∀ (t : ob_S) (H : Heap) (locs : List Loc) (ls : Array Slot) (v0 : Nat) (v1 : Int32) (v2 : Int32) (v3 : Int32), ob_H b D cA t H → va_S (ob_A b) s.heap H locs → lv_has ls 6 [(0, .ref (b + v0)), (1, .int v1), (2, .int v2), (3, .int v3)] → B_Mo_answerGet_56 v0 v1 v2 v3 t = some out → W p l e R s m args below meth c H locs 0 0 (MQ below (ob_Qv b D cA out) args s 0 0 (ob_A b)) (F0 m 56 ls []) := by
  have hx := Cx.1.1
  have hb := Cx.1.2.1
  intro t H locs ls v0 v1 v2 v3 hP hS hl h
  unfold B_Mo_answerGet_56 at h
  refine lv_aload_n hx hb d_Mo_answerGet_56 rfl (lv_at hl 0 rfl) ?_
  refine lv_iload_n hx hb d_Mo_answerGet_57 rfl (lv_at hl 1 rfl) ?_
  refine lv_iload_n hx hb d_Mo_answerGet_58 rfl (lv_at hl 2 rfl) ?_
  refine lv_iload_n hx hb d_Mo_answerGet_59 rfl (lv_at hl 3 rfl) ?_
  refine ob_cVi (nA := 3) (As := [.int v1, .int v2, .int v3]) (rest := []) Cx hl.1 hP hS (fun o ho => c_Mo_registers v0 v1 v2 v3 ho) (fun o ho => g_Mo_registers v0 v1 v2 v3 ho) (by decide) (rfl : ob_cl[11]? = _) mv_Mo_registers w_m_Mo_257 rfl (by decide +kernel) ⟨rfl, rfl⟩ ⟨by decide, by decide⟩ (Nat.le_of_ble_eq_true rfl) rfl d_Mo_answerGet_60 h (fun x60 t60 H locs h hP hS => ?_)
  refine lv_istore (lv' := [(4, .int x60), (0, .ref (b + v0)), (1, .int v1), (2, .int v2), (3, .int v3)]) hx hb d_Mo_answerGet_63 hl (by decide) rfl (fun ls hl => ?_)
  refine lv_iload_n hx hb d_Mo_answerGet_65 rfl (lv_at hl 3 rfl) ?_
  refine lv_if_ne (tgt := 104) hx hb d_Mo_answerGet_66 (by decide) (fun hq => ?_) (fun hq => ?_)
  · rw [if_pos hq] at h
    exact tB_Mo_answerGet_104 Cx t60 H locs ls v0 v1 v2 v3 x60 hP hS (lv_sub hl [1, 2, 3, 4, 0] rfl) h
  · rw [if_neg (fun z => z hq)] at h
    refine lv_aload_n hx hb d_Mo_answerGet_69 rfl (lv_at hl 1 rfl) ?_
    refine ob_getI (k := 53) Cx hP ck_11 rfl w_f_Mo_166 d_Mo_answerGet_70 h (fun x70 h => ?_)
    refine lv_iconst (v := 1) hx hb d_Mo_answerGet_73 (by decide) ?_
    refine lv_icmp_ne (tgt := 104) hx hb d_Mo_answerGet_74 (by decide) (fun hq => ?_) (fun hq => ?_)
    · rw [if_pos hq] at h
      exact tB_Mo_answerGet_104 Cx t60 H locs ls v0 v1 v2 v3 x60 hP hS (lv_sub hl [1, 2, 3, 4, 0] rfl) h
    · rw [if_neg (fun z => z hq)] at h
      refine lv_aload_n hx hb d_Mo_answerGet_77 rfl (lv_at hl 1 rfl) ?_
      refine lv_aload_n hx hb d_Mo_answerGet_78 rfl (lv_at hl 1 rfl) ?_
      refine ob_getI (k := 52) Cx hP ck_11 rfl w_f_Mo_188 d_Mo_answerGet_79 h (fun x79 h => ?_)
      refine ob_cVi (nA := 1) (As := [.int x79]) (rest := []) Cx hl.1 hP hS (fun o ho => c_Mo_watcherOf v0 x79 ho) (fun o ho => g_Mo_watcherOf v0 x79 ho) (by decide) (rfl : ob_cl[11]? = _) mv_Mo_watcherOf w_m_Mo_254 rfl (by decide +kernel) ⟨rfl, rfl⟩ ⟨by decide, by decide⟩ (Nat.le_of_ble_eq_true rfl) rfl d_Mo_answerGet_82 h (fun x82 t82 H locs h hP hS => ?_)
      refine lv_if_lt (tgt := 104) hx hb d_Mo_answerGet_85 (by decide) (fun hq => ?_) (fun hq => ?_)
      · rw [if_pos hq] at h
        exact tB_Mo_answerGet_104 Cx t82 H locs ls v0 v1 v2 v3 x60 hP hS (lv_sub hl [1, 2, 3, 4, 0] rfl) h
      · rw [if_neg hq] at h
        refine lv_aload_n hx hb d_Mo_answerGet_88 rfl (lv_at hl 1 rfl) ?_
        refine lv_aload_n hx hb d_Mo_answerGet_89 rfl (lv_at hl 1 rfl) ?_
        refine ob_getI (k := 52) Cx hP ck_11 rfl w_f_Mo_188 d_Mo_answerGet_90 h (fun x90 h => ?_)
        refine ob_cVi (nA := 1) (As := [.int x90]) (rest := []) Cx hl.1 hP hS (fun o ho => c_Mo_watcherOf v0 x90 ho) (fun o ho => g_Mo_watcherOf v0 x90 ho) (by decide) (rfl : ob_cl[11]? = _) mv_Mo_watcherOf w_m_Mo_254 rfl (by decide +kernel) ⟨rfl, rfl⟩ ⟨by decide, by decide⟩ (Nat.le_of_ble_eq_true rfl) rfl d_Mo_answerGet_93 h (fun x93 t93 H locs h hP hS => ?_)
        refine lv_istore (lv' := [(5, .int x93), (4, .int x60), (0, .ref (b + v0)), (1, .int v1), (2, .int v2), (3, .int v3)]) hx hb d_Mo_answerGet_96 hl (by decide) rfl (fun ls hl => ?_)
        refine lv_aload_n hx hb d_Mo_answerGet_98 rfl (lv_at hl 2 rfl) ?_
        refine lv_iload hx hb d_Mo_answerGet_99 (lv_at hl 0 rfl) ?_
        refine ob_cVv (nA := 1) (As := [.int x93]) (rest := []) Cx hl.1 hP hS (fun o ho => c_Mo_dropWatcher v0 x93 ho) (fun o ho => g_Mo_dropWatcher v0 x93 ho) (by decide) (rfl : ob_cl[11]? = _) mv_Mo_dropWatcher w_m_Mo_260 rfl (by decide +kernel) ⟨rfl, rfl⟩ ⟨by decide, by decide⟩ (Nat.le_of_ble_eq_true rfl) rfl d_Mo_answerGet_101 h (fun t101 H locs h hP hS => ?_)
        exact tB_Mo_answerGet_104 Cx t101 H locs ls v0 v1 v2 v3 x60 hP hS (lv_sub hl [2, 3, 4, 5, 1] rfl) h
theorem g_Mo_answerGet (v0 : Nat) (v1 : Int32) {t : ob_S} {out : ob_S} (h : X_Mo_answerGet v0 v1 t = some out) : v0 < ob_n t ∧ ob_k t v0 = 11 := by
  unfold X_Mo_answerGet ob_this at h
  by_cases q : v0 < ob_n t ∧ ob_k t v0 = 11
  · exact q
  · rw [if_neg q] at h
    cases h
set_option maxHeartbeats 4000000 in
set_option maxRecDepth 100000 in
theorem c_Mo_answerGet {l : Launch} {b : Nat} {D : va_G} {cA : Nat → ClassId} {adK adV : Nat → Nat} (v0 : Nat) (v1 : Int32) {t : ob_S} {out : ob_S} (h : X_Mo_answerGet v0 v1 t = some out) : Met l y_Mo_answerGet (Cond.code y_Mo_answerGet cb_Mo_answerGet 6 none :: ob_T) { frames := 3, cells := 0, slots := 0, locals := 68 } (ob_Pre b D cA adK adV [.ref (b + v0), .int v1] t) (ob_Qv b D cA out) 0 0 (ob_A b) := by
  refine ob_met (by decide) (Nat.le_of_ble_eq_true rfl) ?_
  intro p e R s m args below meth c ls Cx hP hS hl
  have hl : lv_has ls 6 [(0, .ref (b + v0)), (1, .int v1)] := hl
  have hx := Cx.1.1
  have hb := Cx.1.2.1
  have hg := g_Mo_answerGet v0 v1 h
  unfold X_Mo_answerGet ob_this at h
  rw [if_pos hg] at h
  obtain ⟨H, hH⟩ : ∃ H, H = s.heap := ⟨_, rfl⟩
  obtain ⟨locs, hL⟩ : ∃ locs : List Loc, locs = [] := ⟨_, rfl⟩
  rw [← hH] at hP
  have hS : va_S (ob_A b) s.heap H locs := by rw [hH, hL]; exact hS
  suffices hW : W p l e R s m args below meth c H locs 0 0 (MQ below (ob_Qv b D cA out) args s 0 0 (ob_A b)) (F0 m 0 ls []) by rw [hH, hL] at hW; exact hW
  refine lv_aload_n hx hb d_Mo_answerGet_0 rfl (lv_at hl 0 rfl) ?_
  refine ob_getI (k := 57) Cx hP ck_11 rfl w_f_Mo_169 d_Mo_answerGet_1 h (fun x1 h => ?_)
  refine lv_bipush (v := 16) hx hb d_Mo_answerGet_4 (by decide) ?_
  refine lv_idiv hx hb d_Mo_answerGet_6 (by decide) ?_
  refine lv_istore_n (lv' := [(2, .int (x1 / (16 : Int32))), (0, .ref (b + v0)), (1, .int v1)]) hx hb d_Mo_answerGet_7 rfl hl (by decide) rfl (fun ls hl => ?_)
  refine lv_aload_n hx hb d_Mo_answerGet_8 rfl (lv_at hl 1 rfl) ?_
  refine ob_getI (k := 57) Cx hP ck_11 rfl w_f_Mo_169 d_Mo_answerGet_9 h (fun x9 h => ?_)
  refine lv_bipush (v := 8) hx hb d_Mo_answerGet_12 (by decide) ?_
  refine lv_irem hx hb d_Mo_answerGet_14 (by decide) ?_
  refine lv_istore_n (lv' := [(3, .int (x9 - x9 / (8 : Int32) * (8 : Int32))), (2, .int (x1 / (16 : Int32))), (0, .ref (b + v0)), (1, .int v1)]) hx hb d_Mo_answerGet_15 rfl hl (by decide) rfl (fun ls hl => ?_)
  refine lv_iload_n hx hb d_Mo_answerGet_16 rfl (lv_at hl 1 rfl) ?_
  refine lv_if_eq (tgt := 56) hx hb d_Mo_answerGet_17 (by decide) (fun hq => ?_) (fun hq => ?_)
  · rw [if_pos hq] at h
    exact tB_Mo_answerGet_56 Cx t H locs ls v0 v1 (x1 / (16 : Int32)) (x9 - x9 / (8 : Int32) * (8 : Int32)) hP hS (lv_sub hl [2, 3, 1, 0] rfl) h
  · rw [if_neg hq] at h
    refine lv_iload_n hx hb d_Mo_answerGet_20 rfl (lv_at hl 1 rfl) ?_
    refine lv_iload_n hx hb d_Mo_answerGet_21 rfl (lv_at hl 0 rfl) ?_
    refine ob_cSi (nA := 1) (As := [.int (x9 - x9 / (8 : Int32) * (8 : Int32))]) (rest := [.int (x1 / (16 : Int32))]) Cx hl.1 hP hS (fun o ho => c_Mo_sizeOf (x9 - x9 / (8 : Int32) * (8 : Int32)) ho) ms_Mo_sizeOf w_m_Mo_152 rfl (by decide +kernel) ⟨rfl, rfl⟩ ⟨by decide, by decide⟩ (Nat.le_of_ble_eq_true rfl) rfl d_Mo_answerGet_22 h (fun x22 t22 H locs h hP hS => ?_)
    refine lv_imul hx hb d_Mo_answerGet_25 ?_
    refine lv_aload_n hx hb d_Mo_answerGet_26 rfl (lv_at hl 2 rfl) ?_
    refine ob_getR (k := 29) Cx hP ck_11 rfl w_f_Mo_93 d_Mo_answerGet_27 h (fun n27 h => ?_)
    refine lv_iload_n hx hb d_Mo_answerGet_30 rfl (lv_at hl 3 rfl) ?_
    refine ob_aldI Cx hP d_Mo_answerGet_31 h (fun x31 h => ?_)
    refine lv_icmp_lt (tgt := 56) hx hb d_Mo_answerGet_32 (by decide) (fun hq => ?_) (fun hq => ?_)
    · rw [if_pos hq] at h
      exact tB_Mo_answerGet_56 Cx t22 H locs ls v0 v1 (x1 / (16 : Int32)) (x9 - x9 / (8 : Int32) * (8 : Int32)) hP hS (lv_sub hl [2, 3, 1, 0] rfl) h
    · rw [if_neg hq] at h
      refine lv_aload_n hx hb d_Mo_answerGet_35 rfl (lv_at hl 2 rfl) ?_
      refine lv_iconst (v := 2) hx hb d_Mo_answerGet_36 (by decide) ?_
      refine lv_sipush (v := 130) hx hb d_Mo_answerGet_37 (by decide) ?_
      refine lv_aload_n hx hb d_Mo_answerGet_40 rfl (lv_at hl 2 rfl) ?_
      refine ob_getI (k := 51) Cx hP ck_11 rfl w_f_Mo_197 d_Mo_answerGet_41 h (fun x41 h => ?_)
      refine ob_cVv (nA := 3) (As := [.int (2 : Int32), .int (130 : Int32), .int x41]) (rest := []) Cx hl.1 hP hS (fun o ho => c_Mo_begin v0 (2 : Int32) (130 : Int32) x41 ho) (fun o ho => g_Mo_begin v0 (2 : Int32) (130 : Int32) x41 ho) (by decide) (rfl : ob_cl[11]? = _) mv_Mo_begin w_m_Mo_162 rfl (by decide +kernel) ⟨rfl, rfl⟩ ⟨by decide, by decide⟩ (Nat.le_of_ble_eq_true rfl) rfl d_Mo_answerGet_44 h (fun t44 H locs h hP hS => ?_)
      refine lv_aload_n hx hb d_Mo_answerGet_47 rfl (lv_at hl 2 rfl) ?_
      refine lv_aload_n hx hb d_Mo_answerGet_48 rfl (lv_at hl 2 rfl) ?_
      refine ob_getI (k := 52) Cx hP ck_11 rfl w_f_Mo_188 d_Mo_answerGet_49 h (fun x49 h => ?_)
      refine ob_cVv (nA := 1) (As := [.int x49]) (rest := []) Cx hl.1 hP hS (fun o ho => c_Mo_write v0 x49 ho) (fun o ho => g_Mo_write v0 x49 ho) (by decide) (rfl : ob_cl[11]? = _) mv_Mo_write w_m_Mo_144 rfl (by decide +kernel) ⟨rfl, rfl⟩ ⟨by decide, by decide⟩ (Nat.le_of_ble_eq_true rfl) rfl d_Mo_answerGet_52 h (fun t52 H locs h hP hS => ?_)
      exact ob_vret Cx hP hS d_Mo_answerGet_55 h
set_option maxHeartbeats 4000000 in
set_option maxRecDepth 100000 in
theorem tB_Mo_takePart_157 {p : Program} {l : Launch} {e : Env} {R : Room} {s : State} {m : MethodId} {args : Array Value} {below : List Frame} {meth : Method} {c : Code} {b : Nat} {D : va_G} {cA : Nat → ClassId} {adK adV : Nat → Nat} {out : (Int32 × ob_S)} (Cx : ob_C p R s m args meth c cb_Mo_takePart 5 "ObservedBlocksModel" (some .int) b D cA adK adV 5 113) : ∀ (fu : Nat), ∀ (t : ob_S) (H : Heap) (locs : List Loc) (ls : Array Slot) (v0 : Nat) (v1 : Int32) (v4 : Int32), ob_H b D cA t H → va_S (ob_A b) s.heap H locs → lv_has ls 5 [(0, .ref (b + v0)), (1, .int v1), (4, .int v4)] → B_Mo_takePart_157 fu v0 v1 v4 t = some out → W p l e R s m args below meth c H locs 0 0 (MQ below (ob_Qi b D cA out) args s 0 0 (ob_A b)) (F0 m 157 ls []) := by
  have hx := Cx.1.1
  have hb := Cx.1.2.1
  intro fu
  induction fu with
  | zero =>
    intro t H locs ls v0 v1 v4 hP hS hl h
    cases h
  | succ fu ih =>
    intro t H locs ls v0 v1 v4 hP hS hl h
    rw [B_Mo_takePart_157] at h
    refine lv_iload hx hb d_Mo_takePart_157 (lv_at hl 2 rfl) ?_
    refine lv_aload_n hx hb d_Mo_takePart_159 rfl (lv_at hl 0 rfl) ?_
    refine ob_getR (k := 31) Cx hP ck_11 rfl w_f_Mo_99 d_Mo_takePart_160 h (fun n160 h => ?_)
    refine lv_iload_n hx hb d_Mo_takePart_163 rfl (lv_at hl 1 rfl) ?_
    refine ob_aldI Cx hP d_Mo_takePart_164 h (fun x164 h => ?_)
    refine lv_icmp_ge (tgt := 198) hx hb d_Mo_takePart_165 (by decide) (fun hq => ?_) (fun hq => ?_)
    · rw [if_pos hq] at h
      refine lv_aload_n hx hb d_Mo_takePart_198 rfl (lv_at hl 0 rfl) ?_
      refine ob_getR (k := 29) Cx hP ck_11 rfl w_f_Mo_93 d_Mo_takePart_199 h (fun n199 h => ?_)
      refine lv_iload_n hx hb d_Mo_takePart_202 rfl (lv_at hl 1 rfl) ?_
      refine lv_aload_n hx hb d_Mo_takePart_203 rfl (lv_at hl 0 rfl) ?_
      refine ob_getR (k := 31) Cx hP ck_11 rfl w_f_Mo_99 d_Mo_takePart_204 h (fun n204 h => ?_)
      refine lv_iload_n hx hb d_Mo_takePart_207 rfl (lv_at hl 1 rfl) ?_
      refine ob_aldI Cx hP d_Mo_takePart_208 h (fun x208 h => ?_)
      refine ob_astI Cx hP hS d_Mo_takePart_209 h (fun t209 H locs h hP hS => ?_)
      refine lv_aload_n hx hb d_Mo_takePart_210 rfl (lv_at hl 0 rfl) ?_
      refine ob_getR (k := 31) Cx hP ck_11 rfl w_f_Mo_99 d_Mo_takePart_211 h (fun n211 h => ?_)
      refine lv_iload_n hx hb d_Mo_takePart_214 rfl (lv_at hl 1 rfl) ?_
      refine lv_iconst (v := 0) hx hb d_Mo_takePart_215 (by decide) ?_
      refine ob_astI Cx hP hS d_Mo_takePart_216 h (fun t216 H locs h hP hS => ?_)
      refine lv_aload_n hx hb d_Mo_takePart_217 rfl (lv_at hl 0 rfl) ?_
      refine lv_iload_n hx hb d_Mo_takePart_218 rfl (lv_at hl 1 rfl) ?_
      refine ob_cVv (nA := 1) (As := [.int v1]) (rest := []) Cx hl.1 hP hS (fun o ho => c_Mo_tellAll v0 v1 ho) (fun o ho => g_Mo_tellAll v0 v1 ho) (by decide) (rfl : ob_cl[11]? = _) mv_Mo_tellAll w_m_Mo_263 rfl (by decide +kernel) ⟨rfl, rfl⟩ ⟨by decide, by decide⟩ (Nat.le_of_ble_eq_true rfl) rfl d_Mo_takePart_219 h (fun t219 H locs h hP hS => ?_)
      refine lv_bipush (v := 68) hx hb d_Mo_takePart_222 (by decide) ?_
      exact ob_iret Cx hP hS d_Mo_takePart_224 h
    · rw [if_neg hq] at h
      refine lv_aload_n hx hb d_Mo_takePart_168 rfl (lv_at hl 0 rfl) ?_
      refine ob_getR (k := 28) Cx hP ck_11 rfl w_f_Mo_90 d_Mo_takePart_169 h (fun n169 h => ?_)
      refine lv_bipush (v := 64) hx hb d_Mo_takePart_172 (by decide) ?_
      refine lv_iload_n hx hb d_Mo_takePart_174 rfl (lv_at hl 1 rfl) ?_
      refine lv_imul hx hb d_Mo_takePart_175 ?_
      refine lv_iload hx hb d_Mo_takePart_176 (lv_at hl 2 rfl) ?_
      refine lv_iadd hx hb d_Mo_takePart_178 ?_
      refine lv_aload_n hx hb d_Mo_takePart_179 rfl (lv_at hl 0 rfl) ?_
      refine ob_getR (k := 30) Cx hP ck_11 rfl w_f_Mo_96 d_Mo_takePart_180 h (fun n180 h => ?_)
      refine lv_bipush (v := 64) hx hb d_Mo_takePart_183 (by decide) ?_
      refine lv_iload_n hx hb d_Mo_takePart_185 rfl (lv_at hl 1 rfl) ?_
      refine lv_imul hx hb d_Mo_takePart_186 ?_
      refine lv_iload hx hb d_Mo_takePart_187 (lv_at hl 2 rfl) ?_
      refine lv_iadd hx hb d_Mo_takePart_189 ?_
      refine ob_aldI Cx hP d_Mo_takePart_190 h (fun x190 h => ?_)
      refine ob_astI Cx hP hS d_Mo_takePart_191 h (fun t191 H locs h hP hS => ?_)
      refine lv_iinc (v := (v4 + (1 : Int32))) (lv' := [(4, .int (v4 + (1 : Int32))), (0, .ref (b + v0)), (1, .int v1)]) hx hb d_Mo_takePart_192 hl (k := 2) rfl rfl (by decide) rfl (fun ls hl => ?_)
      refine lv_goto (tgt := 157) hx hb d_Mo_takePart_195 (by decide) ?_
      exact ih t191 H locs ls v0 v1 (v4 + (1 : Int32)) hP hS (lv_sub hl [1, 2, 0] rfl) h
set_option maxHeartbeats 4000000 in
set_option maxRecDepth 100000 in
theorem tB_Mo_takePart_85 {p : Program} {l : Launch} {e : Env} {R : Room} {s : State} {m : MethodId} {args : Array Value} {below : List Frame} {meth : Method} {c : Code} {b : Nat} {D : va_G} {cA : Nat → ClassId} {adK adV : Nat → Nat} {out : (Int32 × ob_S)} (Cx : ob_C p R s m args meth c cb_Mo_takePart 5 "ObservedBlocksModel" (some .int) b D cA adK adV 5 113) : ∀ (fu : Nat), ∀ (t : ob_S) (H : Heap) (locs : List Loc) (ls : Array Slot) (v0 : Nat) (v1 : Int32) (v4 : Int32), ob_H b D cA t H → va_S (ob_A b) s.heap H locs → lv_has ls 5 [(0, .ref (b + v0)), (1, .int v1), (4, .int v4)] → B_Mo_takePart_85 fu v0 v1 v4 t = some out → W p l e R s m args below meth c H locs 0 0 (MQ below (ob_Qi b D cA out) args s 0 0 (ob_A b)) (F0 m 85 ls []) := by
  have hx := Cx.1.1
  have hb := Cx.1.2.1
  intro fu
  induction fu with
  | zero =>
    intro t H locs ls v0 v1 v4 hP hS hl h
    cases h
  | succ fu ih =>
    intro t H locs ls v0 v1 v4 hP hS hl h
    rw [B_Mo_takePart_85] at h
    refine lv_iload hx hb d_Mo_takePart_85 (lv_at hl 2 rfl) ?_
    refine lv_aload_n hx hb d_Mo_takePart_87 rfl (lv_at hl 0 rfl) ?_
    refine ob_getI (k := 60) Cx hP ck_11 rfl w_f_Mo_185 d_Mo_takePart_88 h (fun x88 h => ?_)
    refine lv_icmp_ge (tgt := 138) hx hb d_Mo_takePart_91 (by decide) (fun hq => ?_) (fun hq => ?_)
    · rw [if_pos hq] at h
      refine lv_aload_n hx hb d_Mo_takePart_138 rfl (lv_at hl 0 rfl) ?_
      refine ob_getI (k := 58) Cx hP ck_11 rfl w_f_Mo_172 d_Mo_takePart_139 h (fun x139 h => ?_)
      refine lv_bipush (v := 8) hx hb d_Mo_takePart_142 (by decide) ?_
      refine lv_idiv hx hb d_Mo_takePart_144 (by decide) ?_
      refine lv_iconst (v := 2) hx hb d_Mo_takePart_145 (by decide) ?_
      refine lv_irem hx hb d_Mo_takePart_146 (by decide) ?_
      refine lv_iconst (v := 1) hx hb d_Mo_takePart_147 (by decide) ?_
      refine lv_icmp_ne (tgt := 154) hx hb d_Mo_takePart_148 (by decide) (fun hq => ?_) (fun hq => ?_)
      · rw [if_pos hq] at h
        refine lv_iconst (v := 0) hx hb d_Mo_takePart_154 (by decide) ?_
        refine lv_istore (lv' := [(4, .int (0 : Int32)), (0, .ref (b + v0)), (1, .int v1)]) hx hb d_Mo_takePart_155 hl (by decide) rfl (fun ls hl => ?_)
        exact tB_Mo_takePart_157 Cx ob_fu t H locs ls v0 v1 (0 : Int32) hP hS (lv_sub hl [1, 2, 0] rfl) h
      · rw [if_neg (fun z => z hq)] at h
        refine lv_bipush (v := 95) hx hb d_Mo_takePart_151 (by decide) ?_
        exact ob_iret Cx hP hS d_Mo_takePart_153 h
    · rw [if_neg hq] at h
      refine lv_aload_n hx hb d_Mo_takePart_94 rfl (lv_at hl 0 rfl) ?_
      refine ob_getR (k := 30) Cx hP ck_11 rfl w_f_Mo_96 d_Mo_takePart_95 h (fun n95 h => ?_)
      refine lv_bipush (v := 64) hx hb d_Mo_takePart_98 (by decide) ?_
      refine lv_iload_n hx hb d_Mo_takePart_100 rfl (lv_at hl 1 rfl) ?_
      refine lv_imul hx hb d_Mo_takePart_101 ?_
      refine lv_aload_n hx hb d_Mo_takePart_102 rfl (lv_at hl 0 rfl) ?_
      refine ob_getR (k := 31) Cx hP ck_11 rfl w_f_Mo_99 d_Mo_takePart_103 h (fun n103 h => ?_)
      refine lv_iload_n hx hb d_Mo_takePart_106 rfl (lv_at hl 1 rfl) ?_
      refine ob_aldI Cx hP d_Mo_takePart_107 h (fun x107 h => ?_)
      refine lv_iadd hx hb d_Mo_takePart_108 ?_
      refine lv_aload_n hx hb d_Mo_takePart_109 rfl (lv_at hl 0 rfl) ?_
      refine ob_getR (k := 47) Cx hP ck_11 rfl w_f_Mo_129 d_Mo_takePart_110 h (fun n110 h => ?_)
      refine lv_aload_n hx hb d_Mo_takePart_113 rfl (lv_at hl 0 rfl) ?_
      refine ob_getI (k := 59) Cx hP ck_11 rfl w_f_Mo_203 d_Mo_takePart_114 h (fun x114 h => ?_)
      refine lv_iload hx hb d_Mo_takePart_117 (lv_at hl 2 rfl) ?_
      refine lv_iadd hx hb d_Mo_takePart_119 ?_
      refine ob_aldI Cx hP d_Mo_takePart_120 h (fun x120 h => ?_)
      refine ob_astI Cx hP hS d_Mo_takePart_121 h (fun t121 H locs h hP hS => ?_)
      refine lv_aload_n hx hb d_Mo_takePart_122 rfl (lv_at hl 0 rfl) ?_
      refine ob_getR (k := 31) Cx hP ck_11 rfl w_f_Mo_99 d_Mo_takePart_123 h (fun n123 h => ?_)
      refine lv_iload_n hx hb d_Mo_takePart_126 rfl (lv_at hl 1 rfl) ?_
      refine lv_dup2_11 hx hb d_Mo_takePart_127 rfl rfl ?_
      refine ob_aldI Cx hP d_Mo_takePart_128 h (fun x128 h => ?_)
      refine lv_iconst (v := 1) hx hb d_Mo_takePart_129 (by decide) ?_
      refine lv_iadd hx hb d_Mo_takePart_130 ?_
      refine ob_astI Cx hP hS d_Mo_takePart_131 h (fun t131 H locs h hP hS => ?_)
      refine lv_iinc (v := (v4 + (1 : Int32))) (lv' := [(4, .int (v4 + (1 : Int32))), (0, .ref (b + v0)), (1, .int v1)]) hx hb d_Mo_takePart_132 hl (k := 2) rfl rfl (by decide) rfl (fun ls hl => ?_)
      refine lv_goto (tgt := 85) hx hb d_Mo_takePart_135 (by decide) ?_
      exact ih t131 H locs ls v0 v1 (v4 + (1 : Int32)) hP hS (lv_sub hl [1, 2, 0] rfl) h
set_option maxHeartbeats 4000000 in
set_option maxRecDepth 100000 in
theorem tB_Mo_takePart_35 {p : Program} {l : Launch} {e : Env} {R : Room} {s : State} {m : MethodId} {args : Array Value} {below : List Frame} {meth : Method} {c : Code} {b : Nat} {D : va_G} {cA : Nat → ClassId} {adK adV : Nat → Nat} {out : (Int32 × ob_S)} (Cx : ob_C p R s m args meth c cb_Mo_takePart 5 "ObservedBlocksModel" (some .int) b D cA adK adV 5 113) : ∀ (t : ob_S) (H : Heap) (locs : List Loc) (ls : Array Slot) (v0 : Nat) (v1 : Int32) (v2 : Int32) (v3 : Int32) (s0 : Int32) (s1 : Int32) (s2 : Nat), ob_H b D cA t H → va_S (ob_A b) s.heap H locs → lv_has ls 5 [(0, .ref (b + v0)), (1, .int v1), (2, .int v2), (3, .int v3)] → B_Mo_takePart_35 v0 v1 v2 v3 s0 s1 s2 t = some out → W p l e R s m args below meth c H locs 0 0 (MQ below (ob_Qi b D cA out) args s 0 0 (ob_A b)) (F0 m 35 ls [.int s0, .int s1, .ref (b + s2)]) := by
  have hx := Cx.1.1
  have hb := Cx.1.2.1
  intro t H locs ls v0 v1 v2 v3 s0 s1 s2 hP hS hl h
  unfold B_Mo_takePart_35 at h
  refine ob_astI Cx hP hS d_Mo_takePart_35 h (fun t35 H locs h hP hS => ?_)
  refine lv_iload_n hx hb d_Mo_takePart_36 rfl (lv_at hl 2 rfl) ?_
  refine lv_iload_n hx hb d_Mo_takePart_37 rfl (lv_at hl 3 rfl) ?_
  refine ob_cSi (nA := 1) (As := [.int v3]) (rest := [.int v2]) Cx hl.1 hP hS (fun o ho => c_Mo_sizeOf v3 ho) ms_Mo_sizeOf w_m_Mo_152 rfl (by decide +kernel) ⟨rfl, rfl⟩ ⟨by decide, by decide⟩ (Nat.le_of_ble_eq_true rfl) rfl d_Mo_takePart_38 h (fun x38 t38 H locs h hP hS => ?_)
  refine lv_imul hx hb d_Mo_takePart_41 ?_
  refine lv_aload_n hx hb d_Mo_takePart_42 rfl (lv_at hl 0 rfl) ?_
  refine ob_getR (k := 31) Cx hP ck_11 rfl w_f_Mo_99 d_Mo_takePart_43 h (fun n43 h => ?_)
  refine lv_iload_n hx hb d_Mo_takePart_46 rfl (lv_at hl 1 rfl) ?_
  refine ob_aldI Cx hP d_Mo_takePart_47 h (fun x47 h => ?_)
  refine lv_icmp_eq (tgt := 55) hx hb d_Mo_takePart_48 (by decide) (fun hq => ?_) (fun hq => ?_)
  · rw [if_pos hq] at h
    refine lv_aload_n hx hb d_Mo_takePart_55 rfl (lv_at hl 0 rfl) ?_
    refine ob_getR (k := 31) Cx hP ck_11 rfl w_f_Mo_99 d_Mo_takePart_56 h (fun n56 h => ?_)
    refine lv_iload_n hx hb d_Mo_takePart_59 rfl (lv_at hl 1 rfl) ?_
    refine ob_aldI Cx hP d_Mo_takePart_60 h (fun x60 h => ?_)
    refine lv_aload_n hx hb d_Mo_takePart_61 rfl (lv_at hl 0 rfl) ?_
    refine ob_getI (k := 60) Cx hP ck_11 rfl w_f_Mo_185 d_Mo_takePart_62 h (fun x62 h => ?_)
    refine lv_iadd hx hb d_Mo_takePart_65 ?_
    refine lv_bipush (v := 64) hx hb d_Mo_takePart_66 (by decide) ?_
    refine lv_icmp_le (tgt := 82) hx hb d_Mo_takePart_68 (by decide) (fun hq => ?_) (fun hq => ?_)
    · rw [if_pos hq] at h
      refine lv_iconst (v := 0) hx hb d_Mo_takePart_82 (by decide) ?_
      refine lv_istore (lv' := [(4, .int (0 : Int32)), (0, .ref (b + v0)), (1, .int v1), (2, .int v2), (3, .int v3)]) hx hb d_Mo_takePart_83 hl (by decide) rfl (fun ls hl => ?_)
      exact tB_Mo_takePart_85 Cx ob_fu t38 H locs ls v0 v1 (0 : Int32) hP hS (lv_sub hl [1, 2, 0] rfl) h
    · rw [if_neg hq] at h
      refine lv_aload_n hx hb d_Mo_takePart_71 rfl (lv_at hl 0 rfl) ?_
      refine ob_getR (k := 31) Cx hP ck_11 rfl w_f_Mo_99 d_Mo_takePart_72 h (fun n72 h => ?_)
      refine lv_iload_n hx hb d_Mo_takePart_75 rfl (lv_at hl 1 rfl) ?_
      refine lv_iconst (v := 0) hx hb d_Mo_takePart_76 (by decide) ?_
      refine ob_astI Cx hP hS d_Mo_takePart_77 h (fun t77 H locs h hP hS => ?_)
      refine lv_sipush (v := 141) hx hb d_Mo_takePart_78 (by decide) ?_
      exact ob_iret Cx hP hS d_Mo_takePart_81 h
  · rw [if_neg hq] at h
    refine lv_sipush (v := 136) hx hb d_Mo_takePart_51 (by decide) ?_
    exact ob_iret Cx hP hS d_Mo_takePart_54 h
theorem g_Mo_takePart (v0 : Nat) (v1 : Int32) {t : ob_S} {out : (Int32 × ob_S)} (h : X_Mo_takePart v0 v1 t = some out) : v0 < ob_n t ∧ ob_k t v0 = 11 := by
  unfold X_Mo_takePart ob_this at h
  by_cases q : v0 < ob_n t ∧ ob_k t v0 = 11
  · exact q
  · rw [if_neg q] at h
    cases h
set_option maxHeartbeats 4000000 in
set_option maxRecDepth 100000 in
theorem c_Mo_takePart {l : Launch} {b : Nat} {D : va_G} {cA : Nat → ClassId} {adK adV : Nat → Nat} (v0 : Nat) (v1 : Int32) {t : ob_S} {out : (Int32 × ob_S)} (h : X_Mo_takePart v0 v1 t = some out) : Met l y_Mo_takePart (Cond.code y_Mo_takePart cb_Mo_takePart 5 (some .int) :: ob_T) { frames := 5, cells := 0, slots := 0, locals := 113 } (ob_Pre b D cA adK adV [.ref (b + v0), .int v1] t) (ob_Qi b D cA out) 0 0 (ob_A b) := by
  refine ob_met (by decide) (Nat.le_of_ble_eq_true rfl) ?_
  intro p e R s m args below meth c ls Cx hP hS hl
  have hl : lv_has ls 5 [(0, .ref (b + v0)), (1, .int v1)] := hl
  have hx := Cx.1.1
  have hb := Cx.1.2.1
  have hg := g_Mo_takePart v0 v1 h
  unfold X_Mo_takePart ob_this at h
  rw [if_pos hg] at h
  obtain ⟨H, hH⟩ : ∃ H, H = s.heap := ⟨_, rfl⟩
  obtain ⟨locs, hL⟩ : ∃ locs : List Loc, locs = [] := ⟨_, rfl⟩
  rw [← hH] at hP
  have hS : va_S (ob_A b) s.heap H locs := by rw [hH, hL]; exact hS
  suffices hW : W p l e R s m args below meth c H locs 0 0 (MQ below (ob_Qi b D cA out) args s 0 0 (ob_A b)) (F0 m 0 ls []) by rw [hH, hL] at hW; exact hW
  refine lv_aload_n hx hb d_Mo_takePart_0 rfl (lv_at hl 0 rfl) ?_
  refine ob_getI (k := 58) Cx hP ck_11 rfl w_f_Mo_172 d_Mo_takePart_1 h (fun x1 h => ?_)
  refine lv_bipush (v := 16) hx hb d_Mo_takePart_4 (by decide) ?_
  refine lv_idiv hx hb d_Mo_takePart_6 (by decide) ?_
  refine lv_istore_n (lv' := [(2, .int (x1 / (16 : Int32))), (0, .ref (b + v0)), (1, .int v1)]) hx hb d_Mo_takePart_7 rfl hl (by decide) rfl (fun ls hl => ?_)
  refine lv_aload_n hx hb d_Mo_takePart_8 rfl (lv_at hl 1 rfl) ?_
  refine ob_getI (k := 58) Cx hP ck_11 rfl w_f_Mo_172 d_Mo_takePart_9 h (fun x9 h => ?_)
  refine lv_bipush (v := 8) hx hb d_Mo_takePart_12 (by decide) ?_
  refine lv_irem hx hb d_Mo_takePart_14 (by decide) ?_
  refine lv_istore_n (lv' := [(3, .int (x9 - x9 / (8 : Int32) * (8 : Int32))), (2, .int (x1 / (16 : Int32))), (0, .ref (b + v0)), (1, .int v1)]) hx hb d_Mo_takePart_15 rfl hl (by decide) rfl (fun ls hl => ?_)
  refine lv_aload_n hx hb d_Mo_takePart_16 rfl (lv_at hl 2 rfl) ?_
  refine ob_getR (k := 31) Cx hP ck_11 rfl w_f_Mo_99 d_Mo_takePart_17 h (fun n17 h => ?_)
  refine lv_iload_n hx hb d_Mo_takePart_20 rfl (lv_at hl 3 rfl) ?_
  refine lv_iload_n hx hb d_Mo_takePart_21 rfl (lv_at hl 1 rfl) ?_
  refine lv_if_ne (tgt := 29) hx hb d_Mo_takePart_22 (by decide) (fun hq => ?_) (fun hq => ?_)
  · rw [if_pos hq] at h
    refine lv_aload_n hx hb d_Mo_takePart_29 rfl (lv_at hl 2 rfl) ?_
    refine ob_getR (k := 31) Cx hP ck_11 rfl w_f_Mo_99 d_Mo_takePart_30 h (fun n30 h => ?_)
    refine lv_iload_n hx hb d_Mo_takePart_33 rfl (lv_at hl 3 rfl) ?_
    refine ob_aldI Cx hP d_Mo_takePart_34 h (fun x34 h => ?_)
    exact tB_Mo_takePart_35 Cx t H locs ls v0 v1 (x1 / (16 : Int32)) (x9 - x9 / (8 : Int32) * (8 : Int32)) x34 v1 n17 hP hS (lv_sub hl [2, 3, 1, 0] rfl) h
  · rw [if_neg (fun z => z hq)] at h
    refine lv_iconst (v := 0) hx hb d_Mo_takePart_25 (by decide) ?_
    refine lv_goto (tgt := 35) hx hb d_Mo_takePart_26 (by decide) ?_
    exact tB_Mo_takePart_35 Cx t H locs ls v0 v1 (x1 / (16 : Int32)) (x9 - x9 / (8 : Int32) * (8 : Int32)) (0 : Int32) v1 n17 hP hS (lv_sub hl [2, 3, 1, 0] rfl) h
set_option maxHeartbeats 4000000 in
set_option maxRecDepth 100000 in
theorem tB_Mo_forgetAnswer_56 {p : Program} {l : Launch} {e : Env} {R : Room} {s : State} {m : MethodId} {args : Array Value} {below : List Frame} {meth : Method} {c : Code} {b : Nat} {D : va_G} {cA : Nat → ClassId} {adK adV : Nat → Nat} {out : ob_S} (Cx : ob_C p R s m args meth c cb_Mo_forgetAnswer 4 "ObservedBlocksModel" none b D cA adK adV 0 0) {k2 : Nat → Int32 → ob_S → Option ob_S} (hk2 : ∀ (t : ob_S) (H : Heap) (locs : List Loc) (ls : Array Slot) (v0 : Nat) (v2 : Int32), ob_H b D cA t H → va_S (ob_A b) s.heap H locs → lv_has ls 4 [(0, .ref (b + v0)), (2, .int v2)] → k2 v0 v2 t = some out → W p l e R s m args below meth c H locs 0 0 (MQ below (ob_Qv b D cA out) args s 0 0 (ob_A b)) (F0 m 2 ls [])) : ∀ (fu : Nat), ∀ (t : ob_S) (H : Heap) (locs : List Loc) (ls : Array Slot) (v0 : Nat) (v2 : Int32) (v3 : Int32), ob_H b D cA t H → va_S (ob_A b) s.heap H locs → lv_has ls 4 [(0, .ref (b + v0)), (2, .int v2), (3, .int v3)] → B_Mo_forgetAnswer_56 k2 fu v0 v2 v3 t = some out → W p l e R s m args below meth c H locs 0 0 (MQ below (ob_Qv b D cA out) args s 0 0 (ob_A b)) (F0 m 56 ls []) := by
  have hx := Cx.1.1
  have hb := Cx.1.2.1
  intro fu
  induction fu with
  | zero =>
    intro t H locs ls v0 v2 v3 hP hS hl h
    cases h
  | succ fu ih =>
    intro t H locs ls v0 v2 v3 hP hS hl h
    rw [B_Mo_forgetAnswer_56] at h
    refine lv_iload_n hx hb d_Mo_forgetAnswer_56 rfl (lv_at hl 2 rfl) ?_
    refine lv_bipush (v := 64) hx hb d_Mo_forgetAnswer_57 (by decide) ?_
    refine lv_icmp_ge (tgt := 93) hx hb d_Mo_forgetAnswer_59 (by decide) (fun hq => ?_) (fun hq => ?_)
    · rw [if_pos hq] at h
      refine lv_iinc (v := (v2 + (1 : Int32))) (lv' := [(2, .int (v2 + (1 : Int32))), (0, .ref (b + v0)), (3, .int v3)]) hx hb d_Mo_forgetAnswer_93 hl (k := 1) rfl rfl (by decide) rfl (fun ls hl => ?_)
      refine lv_goto (tgt := 2) hx hb d_Mo_forgetAnswer_96 (by decide) ?_
      exact hk2 t H locs ls v0 (v2 + (1 : Int32)) hP hS (lv_sub hl [1, 0] rfl) h
    · rw [if_neg hq] at h
      refine lv_aload_n hx hb d_Mo_forgetAnswer_62 rfl (lv_at hl 0 rfl) ?_
      refine ob_getR (k := 42) Cx hP ck_11 rfl w_f_Mo_120 d_Mo_forgetAnswer_63 h (fun n63 h => ?_)
      refine lv_bipush (v := 64) hx hb d_Mo_forgetAnswer_66 (by decide) ?_
      refine lv_iload_n hx hb d_Mo_forgetAnswer_68 rfl (lv_at hl 1 rfl) ?_
      refine lv_imul hx hb d_Mo_forgetAnswer_69 ?_
      refine lv_iload_n hx hb d_Mo_forgetAnswer_70 rfl (lv_at hl 2 rfl) ?_
      refine lv_iadd hx hb d_Mo_forgetAnswer_71 ?_
      refine lv_aload_n hx hb d_Mo_forgetAnswer_72 rfl (lv_at hl 0 rfl) ?_
      refine ob_getR (k := 42) Cx hP ck_11 rfl w_f_Mo_120 d_Mo_forgetAnswer_73 h (fun n73 h => ?_)
      refine lv_bipush (v := 64) hx hb d_Mo_forgetAnswer_76 (by decide) ?_
      refine lv_iload_n hx hb d_Mo_forgetAnswer_78 rfl (lv_at hl 1 rfl) ?_
      refine lv_imul hx hb d_Mo_forgetAnswer_79 ?_
      refine lv_bipush (v := 64) hx hb d_Mo_forgetAnswer_80 (by decide) ?_
      refine lv_iadd hx hb d_Mo_forgetAnswer_82 ?_
      refine lv_iload_n hx hb d_Mo_forgetAnswer_83 rfl (lv_at hl 2 rfl) ?_
      refine lv_iadd hx hb d_Mo_forgetAnswer_84 ?_
      refine ob_aldI Cx hP d_Mo_forgetAnswer_85 h (fun x85 h => ?_)
      refine ob_astI Cx hP hS d_Mo_forgetAnswer_86 h (fun t86 H locs h hP hS => ?_)
      refine lv_iinc (v := (v3 + (1 : Int32))) (lv' := [(3, .int (v3 + (1 : Int32))), (0, .ref (b + v0)), (2, .int v2)]) hx hb d_Mo_forgetAnswer_87 hl (k := 2) rfl rfl (by decide) rfl (fun ls hl => ?_)
      refine lv_goto (tgt := 56) hx hb d_Mo_forgetAnswer_90 (by decide) ?_
      exact ih t86 H locs ls v0 v2 (v3 + (1 : Int32)) hP hS (lv_sub hl [1, 2, 0] rfl) h
set_option maxHeartbeats 4000000 in
set_option maxRecDepth 100000 in
theorem tB_Mo_forgetAnswer_2 {p : Program} {l : Launch} {e : Env} {R : Room} {s : State} {m : MethodId} {args : Array Value} {below : List Frame} {meth : Method} {c : Code} {b : Nat} {D : va_G} {cA : Nat → ClassId} {adK adV : Nat → Nat} {out : ob_S} (Cx : ob_C p R s m args meth c cb_Mo_forgetAnswer 4 "ObservedBlocksModel" none b D cA adK adV 0 0) : ∀ (fu : Nat), ∀ (t : ob_S) (H : Heap) (locs : List Loc) (ls : Array Slot) (v0 : Nat) (v2 : Int32), ob_H b D cA t H → va_S (ob_A b) s.heap H locs → lv_has ls 4 [(0, .ref (b + v0)), (2, .int v2)] → B_Mo_forgetAnswer_2 fu v0 v2 t = some out → W p l e R s m args below meth c H locs 0 0 (MQ below (ob_Qv b D cA out) args s 0 0 (ob_A b)) (F0 m 2 ls []) := by
  have hx := Cx.1.1
  have hb := Cx.1.2.1
  intro fu
  induction fu with
  | zero =>
    intro t H locs ls v0 v2 hP hS hl h
    cases h
  | succ fu ih =>
    intro t H locs ls v0 v2 hP hS hl h
    rw [B_Mo_forgetAnswer_2] at h
    refine lv_iload_n hx hb d_Mo_forgetAnswer_2 rfl (lv_at hl 1 rfl) ?_
    refine lv_iconst (v := 1) hx hb d_Mo_forgetAnswer_3 (by decide) ?_
    refine lv_iadd hx hb d_Mo_forgetAnswer_4 ?_
    refine lv_aload_n hx hb d_Mo_forgetAnswer_5 rfl (lv_at hl 0 rfl) ?_
    refine ob_getI (k := 39) Cx hP ck_11 rfl w_f_Mo_266 d_Mo_forgetAnswer_6 h (fun x6 h => ?_)
    refine lv_icmp_ge (tgt := 99) hx hb d_Mo_forgetAnswer_9 (by decide) (fun hq => ?_) (fun hq => ?_)
    · rw [if_pos hq] at h
      refine lv_aload_n hx hb d_Mo_forgetAnswer_99 rfl (lv_at hl 0 rfl) ?_
      refine lv_dup hx hb d_Mo_forgetAnswer_100 rfl ?_
      refine ob_getI (k := 39) Cx hP ck_11 rfl w_f_Mo_266 d_Mo_forgetAnswer_101 h (fun x101 h => ?_)
      refine lv_iconst (v := 1) hx hb d_Mo_forgetAnswer_104 (by decide) ?_
      refine lv_isub hx hb d_Mo_forgetAnswer_105 ?_
      refine ob_putI (k := 39) Cx hP hS ck_11 rfl rfl rfl w_f_Mo_266 d_Mo_forgetAnswer_106 h (fun t106 H locs h hP hS => ?_)
      exact ob_vret Cx hP hS d_Mo_forgetAnswer_109 h
    · rw [if_neg hq] at h
      refine lv_aload_n hx hb d_Mo_forgetAnswer_12 rfl (lv_at hl 0 rfl) ?_
      refine ob_getR (k := 40) Cx hP ck_11 rfl w_f_Mo_114 d_Mo_forgetAnswer_13 h (fun n13 h => ?_)
      refine lv_iload_n hx hb d_Mo_forgetAnswer_16 rfl (lv_at hl 1 rfl) ?_
      refine lv_aload_n hx hb d_Mo_forgetAnswer_17 rfl (lv_at hl 0 rfl) ?_
      refine ob_getR (k := 40) Cx hP ck_11 rfl w_f_Mo_114 d_Mo_forgetAnswer_18 h (fun n18 h => ?_)
      refine lv_iload_n hx hb d_Mo_forgetAnswer_21 rfl (lv_at hl 1 rfl) ?_
      refine lv_iconst (v := 1) hx hb d_Mo_forgetAnswer_22 (by decide) ?_
      refine lv_iadd hx hb d_Mo_forgetAnswer_23 ?_
      refine ob_aldI Cx hP d_Mo_forgetAnswer_24 h (fun x24 h => ?_)
      refine ob_astI Cx hP hS d_Mo_forgetAnswer_25 h (fun t25 H locs h hP hS => ?_)
      refine lv_aload_n hx hb d_Mo_forgetAnswer_26 rfl (lv_at hl 0 rfl) ?_
      refine ob_getR (k := 41) Cx hP ck_11 rfl w_f_Mo_117 d_Mo_forgetAnswer_27 h (fun n27 h => ?_)
      refine lv_iload_n hx hb d_Mo_forgetAnswer_30 rfl (lv_at hl 1 rfl) ?_
      refine lv_aload_n hx hb d_Mo_forgetAnswer_31 rfl (lv_at hl 0 rfl) ?_
      refine ob_getR (k := 41) Cx hP ck_11 rfl w_f_Mo_117 d_Mo_forgetAnswer_32 h (fun n32 h => ?_)
      refine lv_iload_n hx hb d_Mo_forgetAnswer_35 rfl (lv_at hl 1 rfl) ?_
      refine lv_iconst (v := 1) hx hb d_Mo_forgetAnswer_36 (by decide) ?_
      refine lv_iadd hx hb d_Mo_forgetAnswer_37 ?_
      refine ob_aldI Cx hP d_Mo_forgetAnswer_38 h (fun x38 h => ?_)
      refine ob_astI Cx hP hS d_Mo_forgetAnswer_39 h (fun t39 H locs h hP hS => ?_)
      refine lv_aload_n hx hb d_Mo_forgetAnswer_40 rfl (lv_at hl 0 rfl) ?_
      refine ob_getR (k := 43) Cx hP ck_11 rfl w_f_Mo_123 d_Mo_forgetAnswer_41 h (fun n41 h => ?_)
      refine lv_iload_n hx hb d_Mo_forgetAnswer_44 rfl (lv_at hl 1 rfl) ?_
      refine lv_aload_n hx hb d_Mo_forgetAnswer_45 rfl (lv_at hl 0 rfl) ?_
      refine ob_getR (k := 43) Cx hP ck_11 rfl w_f_Mo_123 d_Mo_forgetAnswer_46 h (fun n46 h => ?_)
      refine lv_iload_n hx hb d_Mo_forgetAnswer_49 rfl (lv_at hl 1 rfl) ?_
      refine lv_iconst (v := 1) hx hb d_Mo_forgetAnswer_50 (by decide) ?_
      refine lv_iadd hx hb d_Mo_forgetAnswer_51 ?_
      refine ob_aldI Cx hP d_Mo_forgetAnswer_52 h (fun x52 h => ?_)
      refine ob_astI Cx hP hS d_Mo_forgetAnswer_53 h (fun t53 H locs h hP hS => ?_)
      refine lv_iconst (v := 0) hx hb d_Mo_forgetAnswer_54 (by decide) ?_
      refine lv_istore_n (lv' := [(3, .int (0 : Int32)), (0, .ref (b + v0)), (2, .int v2)]) hx hb d_Mo_forgetAnswer_55 rfl hl (by decide) rfl (fun ls hl => ?_)
      exact tB_Mo_forgetAnswer_56 Cx ih ob_fu t53 H locs ls v0 v2 (0 : Int32) hP hS (lv_sub hl [1, 2, 0] rfl) h
theorem g_Mo_forgetAnswer (v0 : Nat) (v1 : Int32) {t : ob_S} {out : ob_S} (h : X_Mo_forgetAnswer v0 v1 t = some out) : v0 < ob_n t ∧ ob_k t v0 = 11 := by
  unfold X_Mo_forgetAnswer ob_this at h
  by_cases q : v0 < ob_n t ∧ ob_k t v0 = 11
  · exact q
  · rw [if_neg q] at h
    cases h
set_option maxHeartbeats 4000000 in
set_option maxRecDepth 100000 in
theorem c_Mo_forgetAnswer {l : Launch} {b : Nat} {D : va_G} {cA : Nat → ClassId} {adK adV : Nat → Nat} (v0 : Nat) (v1 : Int32) {t : ob_S} {out : ob_S} (h : X_Mo_forgetAnswer v0 v1 t = some out) : Met l y_Mo_forgetAnswer (Cond.code y_Mo_forgetAnswer cb_Mo_forgetAnswer 4 none :: ob_T) { frames := 0, cells := 0, slots := 0, locals := 0 } (ob_Pre b D cA adK adV [.ref (b + v0), .int v1] t) (ob_Qv b D cA out) 0 0 (ob_A b) := by
  refine ob_met (by decide) (Nat.le_of_ble_eq_true rfl) ?_
  intro p e R s m args below meth c ls Cx hP hS hl
  have hl : lv_has ls 4 [(0, .ref (b + v0)), (1, .int v1)] := hl
  have hx := Cx.1.1
  have hb := Cx.1.2.1
  have hg := g_Mo_forgetAnswer v0 v1 h
  unfold X_Mo_forgetAnswer ob_this at h
  rw [if_pos hg] at h
  obtain ⟨H, hH⟩ : ∃ H, H = s.heap := ⟨_, rfl⟩
  obtain ⟨locs, hL⟩ : ∃ locs : List Loc, locs = [] := ⟨_, rfl⟩
  rw [← hH] at hP
  have hS : va_S (ob_A b) s.heap H locs := by rw [hH, hL]; exact hS
  suffices hW : W p l e R s m args below meth c H locs 0 0 (MQ below (ob_Qv b D cA out) args s 0 0 (ob_A b)) (F0 m 0 ls []) by rw [hH, hL] at hW; exact hW
  refine lv_iload_n hx hb d_Mo_forgetAnswer_0 rfl (lv_at hl 1 rfl) ?_
  refine lv_istore_n (lv' := [(2, .int v1), (0, .ref (b + v0)), (1, .int v1)]) hx hb d_Mo_forgetAnswer_1 rfl hl (by decide) rfl (fun ls hl => ?_)
  exact tB_Mo_forgetAnswer_2 Cx ob_fu t H locs ls v0 v1 hP hS (lv_sub hl [1, 0] rfl) h
set_option maxHeartbeats 4000000 in
set_option maxRecDepth 100000 in
theorem tB_Mo_answerOf_2 {p : Program} {l : Launch} {e : Env} {R : Room} {s : State} {m : MethodId} {args : Array Value} {below : List Frame} {meth : Method} {c : Code} {b : Nat} {D : va_G} {cA : Nat → ClassId} {adK adV : Nat → Nat} {out : (Int32 × ob_S)} (Cx : ob_C p R s m args meth c cb_Mo_answerOf 3 "ObservedBlocksModel" (some .int) b D cA adK adV 0 0) : ∀ (fu : Nat), ∀ (t : ob_S) (H : Heap) (locs : List Loc) (ls : Array Slot) (v0 : Nat) (v1 : Int32) (v2 : Int32), ob_H b D cA t H → va_S (ob_A b) s.heap H locs → lv_has ls 3 [(0, .ref (b + v0)), (1, .int v1), (2, .int v2)] → B_Mo_answerOf_2 fu v0 v1 v2 t = some out → W p l e R s m args below meth c H locs 0 0 (MQ below (ob_Qi b D cA out) args s 0 0 (ob_A b)) (F0 m 2 ls []) := by
  have hx := Cx.1.1
  have hb := Cx.1.2.1
  intro fu
  induction fu with
  | zero =>
    intro t H locs ls v0 v1 v2 hP hS hl h
    cases h
  | succ fu ih =>
    intro t H locs ls v0 v1 v2 hP hS hl h
    rw [B_Mo_answerOf_2] at h
    refine lv_iload_n hx hb d_Mo_answerOf_2 rfl (lv_at hl 2 rfl) ?_
    refine lv_aload_n hx hb d_Mo_answerOf_3 rfl (lv_at hl 0 rfl) ?_
    refine ob_getI (k := 39) Cx hP ck_11 rfl w_f_Mo_266 d_Mo_answerOf_4 h (fun x4 h => ?_)
    refine lv_icmp_ge (tgt := 28) hx hb d_Mo_answerOf_7 (by decide) (fun hq => ?_) (fun hq => ?_)
    · rw [if_pos hq] at h
      refine lv_iconst (v := -1) hx hb d_Mo_answerOf_28 (by decide) ?_
      exact ob_iret Cx hP hS d_Mo_answerOf_29 h
    · rw [if_neg hq] at h
      refine lv_aload_n hx hb d_Mo_answerOf_10 rfl (lv_at hl 0 rfl) ?_
      refine ob_getR (k := 40) Cx hP ck_11 rfl w_f_Mo_114 d_Mo_answerOf_11 h (fun n11 h => ?_)
      refine lv_iload_n hx hb d_Mo_answerOf_14 rfl (lv_at hl 2 rfl) ?_
      refine ob_aldI Cx hP d_Mo_answerOf_15 h (fun x15 h => ?_)
      refine lv_iload_n hx hb d_Mo_answerOf_16 rfl (lv_at hl 1 rfl) ?_
      refine lv_icmp_ne (tgt := 22) hx hb d_Mo_answerOf_17 (by decide) (fun hq => ?_) (fun hq => ?_)
      · rw [if_pos hq] at h
        refine lv_iinc (v := (v2 + (1 : Int32))) (lv' := [(2, .int (v2 + (1 : Int32))), (0, .ref (b + v0)), (1, .int v1)]) hx hb d_Mo_answerOf_22 hl (k := 2) rfl rfl (by decide) rfl (fun ls hl => ?_)
        refine lv_goto (tgt := 2) hx hb d_Mo_answerOf_25 (by decide) ?_
        exact ih t H locs ls v0 v1 (v2 + (1 : Int32)) hP hS (lv_sub hl [1, 2, 0] rfl) h
      · rw [if_neg (fun z => z hq)] at h
        refine lv_iload_n hx hb d_Mo_answerOf_20 rfl (lv_at hl 2 rfl) ?_
        exact ob_iret Cx hP hS d_Mo_answerOf_21 h
theorem g_Mo_answerOf (v0 : Nat) (v1 : Int32) {t : ob_S} {out : (Int32 × ob_S)} (h : X_Mo_answerOf v0 v1 t = some out) : v0 < ob_n t ∧ ob_k t v0 = 11 := by
  unfold X_Mo_answerOf ob_this at h
  by_cases q : v0 < ob_n t ∧ ob_k t v0 = 11
  · exact q
  · rw [if_neg q] at h
    cases h
set_option maxHeartbeats 4000000 in
set_option maxRecDepth 100000 in
theorem c_Mo_answerOf {l : Launch} {b : Nat} {D : va_G} {cA : Nat → ClassId} {adK adV : Nat → Nat} (v0 : Nat) (v1 : Int32) {t : ob_S} {out : (Int32 × ob_S)} (h : X_Mo_answerOf v0 v1 t = some out) : Met l y_Mo_answerOf (Cond.code y_Mo_answerOf cb_Mo_answerOf 3 (some .int) :: ob_T) { frames := 0, cells := 0, slots := 0, locals := 0 } (ob_Pre b D cA adK adV [.ref (b + v0), .int v1] t) (ob_Qi b D cA out) 0 0 (ob_A b) := by
  refine ob_met (by decide) (Nat.le_of_ble_eq_true rfl) ?_
  intro p e R s m args below meth c ls Cx hP hS hl
  have hl : lv_has ls 3 [(0, .ref (b + v0)), (1, .int v1)] := hl
  have hx := Cx.1.1
  have hb := Cx.1.2.1
  have hg := g_Mo_answerOf v0 v1 h
  unfold X_Mo_answerOf ob_this at h
  rw [if_pos hg] at h
  obtain ⟨H, hH⟩ : ∃ H, H = s.heap := ⟨_, rfl⟩
  obtain ⟨locs, hL⟩ : ∃ locs : List Loc, locs = [] := ⟨_, rfl⟩
  rw [← hH] at hP
  have hS : va_S (ob_A b) s.heap H locs := by rw [hH, hL]; exact hS
  suffices hW : W p l e R s m args below meth c H locs 0 0 (MQ below (ob_Qi b D cA out) args s 0 0 (ob_A b)) (F0 m 0 ls []) by rw [hH, hL] at hW; exact hW
  refine lv_iconst (v := 0) hx hb d_Mo_answerOf_0 (by decide) ?_
  refine lv_istore_n (lv' := [(2, .int (0 : Int32)), (0, .ref (b + v0)), (1, .int v1)]) hx hb d_Mo_answerOf_1 rfl hl (by decide) rfl (fun ls hl => ?_)
  exact tB_Mo_answerOf_2 Cx ob_fu t H locs ls v0 v1 (0 : Int32) hP hS (lv_sub hl [1, 2, 0] rfl) h
set_option maxHeartbeats 4000000 in
set_option maxRecDepth 100000 in
theorem tB_Mo_remember_72 {p : Program} {l : Launch} {e : Env} {R : Room} {s : State} {m : MethodId} {args : Array Value} {below : List Frame} {meth : Method} {c : Code} {b : Nat} {D : va_G} {cA : Nat → ClassId} {adK adV : Nat → Nat} {out : ob_S} (Cx : ob_C p R s m args meth c cb_Mo_remember 3 "ObservedBlocksModel" none b D cA adK adV 1 23) : ∀ (fu : Nat), ∀ (t : ob_S) (H : Heap) (locs : List Loc) (ls : Array Slot) (v0 : Nat) (v2 : Int32), ob_H b D cA t H → va_S (ob_A b) s.heap H locs → lv_has ls 3 [(0, .ref (b + v0)), (2, .int v2)] → B_Mo_remember_72 fu v0 v2 t = some out → W p l e R s m args below meth c H locs 0 0 (MQ below (ob_Qv b D cA out) args s 0 0 (ob_A b)) (F0 m 72 ls []) := by
  have hx := Cx.1.1
  have hb := Cx.1.2.1
  intro fu
  induction fu with
  | zero =>
    intro t H locs ls v0 v2 hP hS hl h
    cases h
  | succ fu ih =>
    intro t H locs ls v0 v2 hP hS hl h
    rw [B_Mo_remember_72] at h
    refine lv_iload_n hx hb d_Mo_remember_72 rfl (lv_at hl 1 rfl) ?_
    refine lv_aload_n hx hb d_Mo_remember_73 rfl (lv_at hl 0 rfl) ?_
    refine ob_getI (k := 45) Cx hP ck_11 rfl w_f_Mo_138 d_Mo_remember_74 h (fun x74 h => ?_)
    refine lv_icmp_ge (tgt := 106) hx hb d_Mo_remember_77 (by decide) (fun hq => ?_) (fun hq => ?_)
    · rw [if_pos hq] at h
      refine lv_aload_n hx hb d_Mo_remember_106 rfl (lv_at hl 0 rfl) ?_
      refine lv_dup hx hb d_Mo_remember_107 rfl ?_
      refine ob_getI (k := 39) Cx hP ck_11 rfl w_f_Mo_266 d_Mo_remember_108 h (fun x108 h => ?_)
      refine lv_iconst (v := 1) hx hb d_Mo_remember_111 (by decide) ?_
      refine lv_iadd hx hb d_Mo_remember_112 ?_
      refine ob_putI (k := 39) Cx hP hS ck_11 rfl rfl rfl w_f_Mo_266 d_Mo_remember_113 h (fun t113 H locs h hP hS => ?_)
      exact ob_vret Cx hP hS d_Mo_remember_116 h
    · rw [if_neg hq] at h
      refine lv_aload_n hx hb d_Mo_remember_80 rfl (lv_at hl 0 rfl) ?_
      refine ob_getR (k := 42) Cx hP ck_11 rfl w_f_Mo_120 d_Mo_remember_81 h (fun n81 h => ?_)
      refine lv_bipush (v := 64) hx hb d_Mo_remember_84 (by decide) ?_
      refine lv_aload_n hx hb d_Mo_remember_86 rfl (lv_at hl 0 rfl) ?_
      refine ob_getI (k := 39) Cx hP ck_11 rfl w_f_Mo_266 d_Mo_remember_87 h (fun x87 h => ?_)
      refine lv_imul hx hb d_Mo_remember_90 ?_
      refine lv_iload_n hx hb d_Mo_remember_91 rfl (lv_at hl 1 rfl) ?_
      refine lv_iadd hx hb d_Mo_remember_92 ?_
      refine lv_aload_n hx hb d_Mo_remember_93 rfl (lv_at hl 0 rfl) ?_
      refine ob_getR (k := 44) Cx hP ck_11 rfl w_f_Mo_126 d_Mo_remember_94 h (fun n94 h => ?_)
      refine lv_iload_n hx hb d_Mo_remember_97 rfl (lv_at hl 1 rfl) ?_
      refine ob_aldI Cx hP d_Mo_remember_98 h (fun x98 h => ?_)
      refine ob_astI Cx hP hS d_Mo_remember_99 h (fun t99 H locs h hP hS => ?_)
      refine lv_iinc (v := (v2 + (1 : Int32))) (lv' := [(2, .int (v2 + (1 : Int32))), (0, .ref (b + v0))]) hx hb d_Mo_remember_100 hl (k := 1) rfl rfl (by decide) rfl (fun ls hl => ?_)
      refine lv_goto (tgt := 72) hx hb d_Mo_remember_103 (by decide) ?_
      exact ih t99 H locs ls v0 (v2 + (1 : Int32)) hP hS (lv_sub hl [1, 0] rfl) h
set_option maxHeartbeats 4000000 in
set_option maxRecDepth 100000 in
theorem tB_Mo_remember_31 {p : Program} {l : Launch} {e : Env} {R : Room} {s : State} {m : MethodId} {args : Array Value} {below : List Frame} {meth : Method} {c : Code} {b : Nat} {D : va_G} {cA : Nat → ClassId} {adK adV : Nat → Nat} {out : ob_S} (Cx : ob_C p R s m args meth c cb_Mo_remember 3 "ObservedBlocksModel" none b D cA adK adV 1 23) : ∀ (t : ob_S) (H : Heap) (locs : List Loc) (ls : Array Slot) (v0 : Nat), ob_H b D cA t H → va_S (ob_A b) s.heap H locs → lv_has ls 3 [(0, .ref (b + v0))] → B_Mo_remember_31 v0 t = some out → W p l e R s m args below meth c H locs 0 0 (MQ below (ob_Qv b D cA out) args s 0 0 (ob_A b)) (F0 m 31 ls []) := by
  have hx := Cx.1.1
  have hb := Cx.1.2.1
  intro t H locs ls v0 hP hS hl h
  unfold B_Mo_remember_31 at h
  refine lv_aload_n hx hb d_Mo_remember_31 rfl (lv_at hl 0 rfl) ?_
  refine ob_getR (k := 40) Cx hP ck_11 rfl w_f_Mo_114 d_Mo_remember_32 h (fun n32 h => ?_)
  refine lv_aload_n hx hb d_Mo_remember_35 rfl (lv_at hl 0 rfl) ?_
  refine ob_getI (k := 39) Cx hP ck_11 rfl w_f_Mo_266 d_Mo_remember_36 h (fun x36 h => ?_)
  refine lv_aload_n hx hb d_Mo_remember_39 rfl (lv_at hl 0 rfl) ?_
  refine ob_getI (k := 51) Cx hP ck_11 rfl w_f_Mo_197 d_Mo_remember_40 h (fun x40 h => ?_)
  refine ob_astI Cx hP hS d_Mo_remember_43 h (fun t43 H locs h hP hS => ?_)
  refine lv_aload_n hx hb d_Mo_remember_44 rfl (lv_at hl 0 rfl) ?_
  refine ob_getR (k := 41) Cx hP ck_11 rfl w_f_Mo_117 d_Mo_remember_45 h (fun n45 h => ?_)
  refine lv_aload_n hx hb d_Mo_remember_48 rfl (lv_at hl 0 rfl) ?_
  refine ob_getI (k := 39) Cx hP ck_11 rfl w_f_Mo_266 d_Mo_remember_49 h (fun x49 h => ?_)
  refine lv_aload_n hx hb d_Mo_remember_52 rfl (lv_at hl 0 rfl) ?_
  refine ob_getI (k := 4) Cx hP ck_11 rfl w_f_Mo_275 d_Mo_remember_53 h (fun x53 h => ?_)
  refine ob_astI Cx hP hS d_Mo_remember_56 h (fun t56 H locs h hP hS => ?_)
  refine lv_aload_n hx hb d_Mo_remember_57 rfl (lv_at hl 0 rfl) ?_
  refine ob_getR (k := 43) Cx hP ck_11 rfl w_f_Mo_123 d_Mo_remember_58 h (fun n58 h => ?_)
  refine lv_aload_n hx hb d_Mo_remember_61 rfl (lv_at hl 0 rfl) ?_
  refine ob_getI (k := 39) Cx hP ck_11 rfl w_f_Mo_266 d_Mo_remember_62 h (fun x62 h => ?_)
  refine lv_aload_n hx hb d_Mo_remember_65 rfl (lv_at hl 0 rfl) ?_
  refine ob_getI (k := 45) Cx hP ck_11 rfl w_f_Mo_138 d_Mo_remember_66 h (fun x66 h => ?_)
  refine ob_astI Cx hP hS d_Mo_remember_69 h (fun t69 H locs h hP hS => ?_)
  refine lv_iconst (v := 0) hx hb d_Mo_remember_70 (by decide) ?_
  refine lv_istore_n (lv' := [(2, .int (0 : Int32)), (0, .ref (b + v0))]) hx hb d_Mo_remember_71 rfl hl (by decide) rfl (fun ls hl => ?_)
  exact tB_Mo_remember_72 Cx ob_fu t69 H locs ls v0 (0 : Int32) hP hS (lv_sub hl [1, 0] rfl) h
set_option maxHeartbeats 4000000 in
set_option maxRecDepth 100000 in
theorem tB_Mo_remember_18 {p : Program} {l : Launch} {e : Env} {R : Room} {s : State} {m : MethodId} {args : Array Value} {below : List Frame} {meth : Method} {c : Code} {b : Nat} {D : va_G} {cA : Nat → ClassId} {adK adV : Nat → Nat} {out : ob_S} (Cx : ob_C p R s m args meth c cb_Mo_remember 3 "ObservedBlocksModel" none b D cA adK adV 1 23) : ∀ (t : ob_S) (H : Heap) (locs : List Loc) (ls : Array Slot) (v0 : Nat), ob_H b D cA t H → va_S (ob_A b) s.heap H locs → lv_has ls 3 [(0, .ref (b + v0))] → B_Mo_remember_18 v0 t = some out → W p l e R s m args below meth c H locs 0 0 (MQ below (ob_Qv b D cA out) args s 0 0 (ob_A b)) (F0 m 18 ls []) := by
  have hx := Cx.1.1
  have hb := Cx.1.2.1
  intro t H locs ls v0 hP hS hl h
  unfold B_Mo_remember_18 at h
  refine lv_aload_n hx hb d_Mo_remember_18 rfl (lv_at hl 0 rfl) ?_
  refine ob_getI (k := 39) Cx hP ck_11 rfl w_f_Mo_266 d_Mo_remember_19 h (fun x19 h => ?_)
  refine lv_iconst (v := 4) hx hb d_Mo_remember_22 (by decide) ?_
  refine lv_icmp_ne (tgt := 31) hx hb d_Mo_remember_23 (by decide) (fun hq => ?_) (fun hq => ?_)
  · rw [if_pos hq] at h
    exact tB_Mo_remember_31 Cx t H locs ls v0 hP hS (lv_sub hl [0] rfl) h
  · rw [if_neg (fun z => z hq)] at h
    refine lv_aload_n hx hb d_Mo_remember_26 rfl (lv_at hl 0 rfl) ?_
    refine lv_iconst (v := 0) hx hb d_Mo_remember_27 (by decide) ?_
    refine ob_cVv (nA := 1) (As := [.int (0 : Int32)]) (rest := []) Cx hl.1 hP hS (fun o ho => c_Mo_forgetAnswer v0 (0 : Int32) ho) (fun o ho => g_Mo_forgetAnswer v0 (0 : Int32) ho) (by decide) (rfl : ob_cl[11]? = _) mv_Mo_forgetAnswer w_m_Mo_272 rfl (by decide +kernel) ⟨rfl, rfl⟩ ⟨by decide, by decide⟩ (Nat.le_of_ble_eq_true rfl) rfl d_Mo_remember_28 h (fun t28 H locs h hP hS => ?_)
    exact tB_Mo_remember_31 Cx t28 H locs ls v0 hP hS (lv_sub hl [0] rfl) h
theorem g_Mo_remember (v0 : Nat) {t : ob_S} {out : ob_S} (h : X_Mo_remember v0 t = some out) : v0 < ob_n t ∧ ob_k t v0 = 11 := by
  unfold X_Mo_remember ob_this at h
  by_cases q : v0 < ob_n t ∧ ob_k t v0 = 11
  · exact q
  · rw [if_neg q] at h
    cases h
set_option maxHeartbeats 4000000 in
set_option maxRecDepth 100000 in
theorem c_Mo_remember {l : Launch} {b : Nat} {D : va_G} {cA : Nat → ClassId} {adK adV : Nat → Nat} (v0 : Nat) {t : ob_S} {out : ob_S} (h : X_Mo_remember v0 t = some out) : Met l y_Mo_remember (Cond.code y_Mo_remember cb_Mo_remember 3 none :: ob_T) { frames := 1, cells := 0, slots := 0, locals := 23 } (ob_Pre b D cA adK adV [.ref (b + v0)] t) (ob_Qv b D cA out) 0 0 (ob_A b) := by
  refine ob_met (by decide) (Nat.le_of_ble_eq_true rfl) ?_
  intro p e R s m args below meth c ls Cx hP hS hl
  have hl : lv_has ls 3 [(0, .ref (b + v0))] := hl
  have hx := Cx.1.1
  have hb := Cx.1.2.1
  have hg := g_Mo_remember v0 h
  unfold X_Mo_remember ob_this at h
  rw [if_pos hg] at h
  obtain ⟨H, hH⟩ : ∃ H, H = s.heap := ⟨_, rfl⟩
  obtain ⟨locs, hL⟩ : ∃ locs : List Loc, locs = [] := ⟨_, rfl⟩
  rw [← hH] at hP
  have hS : va_S (ob_A b) s.heap H locs := by rw [hH, hL]; exact hS
  suffices hW : W p l e R s m args below meth c H locs 0 0 (MQ below (ob_Qv b D cA out) args s 0 0 (ob_A b)) (F0 m 0 ls []) by rw [hH, hL] at hW; exact hW
  refine lv_aload_n hx hb d_Mo_remember_0 rfl (lv_at hl 0 rfl) ?_
  refine lv_aload_n hx hb d_Mo_remember_1 rfl (lv_at hl 0 rfl) ?_
  refine ob_getI (k := 51) Cx hP ck_11 rfl w_f_Mo_197 d_Mo_remember_2 h (fun x2 h => ?_)
  refine ob_cVi (nA := 1) (As := [.int x2]) (rest := []) Cx hl.1 hP hS (fun o ho => c_Mo_answerOf v0 x2 ho) (fun o ho => g_Mo_answerOf v0 x2 ho) (by decide) (rfl : ob_cl[11]? = _) mv_Mo_answerOf w_m_Mo_269 rfl (by decide +kernel) ⟨rfl, rfl⟩ ⟨by decide, by decide⟩ (Nat.le_of_ble_eq_true rfl) rfl d_Mo_remember_5 h (fun x5 t5 H locs h hP hS => ?_)
  refine lv_istore_n (lv' := [(1, .int x5), (0, .ref (b + v0))]) hx hb d_Mo_remember_8 rfl hl (by decide) rfl (fun ls hl => ?_)
  refine lv_iload_n hx hb d_Mo_remember_9 rfl (lv_at hl 0 rfl) ?_
  refine lv_if_lt (tgt := 18) hx hb d_Mo_remember_10 (by decide) (fun hq => ?_) (fun hq => ?_)
  · rw [if_pos hq] at h
    exact tB_Mo_remember_18 Cx t5 H locs ls v0 hP hS (lv_sub hl [1] rfl) h
  · rw [if_neg hq] at h
    refine lv_aload_n hx hb d_Mo_remember_13 rfl (lv_at hl 1 rfl) ?_
    refine lv_iload_n hx hb d_Mo_remember_14 rfl (lv_at hl 0 rfl) ?_
    refine ob_cVv (nA := 1) (As := [.int x5]) (rest := []) Cx hl.1 hP hS (fun o ho => c_Mo_forgetAnswer v0 x5 ho) (fun o ho => g_Mo_forgetAnswer v0 x5 ho) (by decide) (rfl : ob_cl[11]? = _) mv_Mo_forgetAnswer w_m_Mo_272 rfl (by decide +kernel) ⟨rfl, rfl⟩ ⟨by decide, by decide⟩ (Nat.le_of_ble_eq_true rfl) rfl d_Mo_remember_15 h (fun t15 H locs h hP hS => ?_)
    exact tB_Mo_remember_18 Cx t15 H locs ls v0 hP hS (lv_sub hl [1] rfl) h

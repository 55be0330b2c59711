set_option maxHeartbeats 4000000 in
set_option maxRecDepth 100000 in
theorem tB_Mo_handle_126 {p : Program} {l : Launch} {e : Env} {R : Room} {s : State} {m : MethodId} {args : Array Value} {below : List Frame} {meth : Method} {c : Code} {b : Nat} {D : va_G} {cA : Nat → ClassId} {adK adV : Nat → Nat} {out : ob_S} (Cx : ob_C p R s m args meth c cb_Mo_handle 4 "ObservedBlocksModel" none b D cA adK adV 6 137) : ∀ (t : ob_S) (H : Heap) (locs : List Loc) (ls : Array Slot) (v0 : Nat), ob_H b D cA t H → va_S (ob_A b) s.heap H locs → lv_has ls 4 [(0, .ref (b + v0))] → B_Mo_handle_126 v0 t = some out → W p l e R s m args below meth c H locs 0 0 (MQ below (ob_Qv b D cA out) args s 0 0 (ob_A b)) (F0 m 126 ls []) := by
  have hx := Cx.1.1
  have hb := Cx.1.2.1
  intro t H locs ls v0 hP hS hl h
  unfold B_Mo_handle_126 at h
  refine lv_aload_n hx hb d_Mo_handle_126 rfl (lv_at hl 0 rfl) ?_
  refine ob_cVv (nA := 0) (As := []) (rest := []) Cx hl.1 hP hS (fun o ho => c_Mo_remember v0 ho) (fun o ho => g_Mo_remember v0 ho) (by decide) (rfl : ob_cl[11]? = _) mv_Mo_remember w_m_Mo_291 rfl (by decide +kernel) ⟨rfl, rfl⟩ ⟨by decide, by decide⟩ (Nat.le_of_ble_eq_true rfl) rfl d_Mo_handle_127 h (fun t127 H locs h hP hS => ?_)
  refine lv_aload_n hx hb d_Mo_handle_130 rfl (lv_at hl 0 rfl) ?_
  refine lv_iconst (v := 0) hx hb d_Mo_handle_131 (by decide) ?_
  refine ob_cVv (nA := 1) (As := [.int (0 : Int32)]) (rest := []) Cx hl.1 hP hS (fun o ho => c_Mo_send v0 (0 : Int32) ho) (fun o ho => g_Mo_send v0 (0 : Int32) ho) (by decide) (rfl : ob_cl[11]? = _) mv_Mo_send w_m_Mo_159 rfl (by decide +kernel) ⟨rfl, rfl⟩ ⟨by decide, by decide⟩ (Nat.le_of_ble_eq_true rfl) rfl d_Mo_handle_132 h (fun t132 H locs h hP hS => ?_)
  exact ob_vret Cx hP hS d_Mo_handle_135 h
set_option maxHeartbeats 4000000 in
set_option maxRecDepth 100000 in
theorem tB_Mo_handle_58 {p : Program} {l : Launch} {e : Env} {R : Room} {s : State} {m : MethodId} {args : Array Value} {below : List Frame} {meth : Method} {c : Code} {b : Nat} {D : va_G} {cA : Nat → ClassId} {adK adV : Nat → Nat} {out : ob_S} (Cx : ob_C p R s m args meth c cb_Mo_handle 4 "ObservedBlocksModel" none b D cA adK adV 6 137) : ∀ (t : ob_S) (H : Heap) (locs : List Loc) (ls : Array Slot) (v0 : Nat) (s0 : Int32) (s1 : Int32) (s2 : Nat), ob_H b D cA t H → va_S (ob_A b) s.heap H locs → lv_has ls 4 [(0, .ref (b + v0))] → B_Mo_handle_58 v0 s0 s1 s2 t = some out → W p l e R s m args below meth c H locs 0 0 (MQ below (ob_Qv b D cA out) args s 0 0 (ob_A b)) (F0 m 58 ls [.int s0, .int s1, .ref (b + s2)]) := by
  have hx := Cx.1.1
  have hb := Cx.1.2.1
  intro t H locs ls v0 s0 s1 s2 hP hS hl h
  unfold B_Mo_handle_58 at h
  refine lv_aload_n hx hb d_Mo_handle_58 rfl (lv_at hl 0 rfl) ?_
  refine ob_getI (k := 51) Cx hP ck_11 rfl w_f_Mo_197 d_Mo_handle_59 h (fun x59 h => ?_)
  refine ob_cVv (nA := 3) (As := [.int s1, .int s0, .int x59]) (rest := []) Cx hl.1 hP hS (fun o ho => c_Mo_begin s2 s1 s0 x59 ho) (fun o ho => g_Mo_begin s2 s1 s0 x59 ho) (by decide) (rfl : ob_cl[11]? = _) mv_Mo_begin w_m_Mo_162 rfl (by decide +kernel) ⟨rfl, rfl⟩ ⟨by decide, by decide⟩ (Nat.le_of_ble_eq_true rfl) rfl d_Mo_handle_62 h (fun t62 H locs h hP hS => ?_)
  refine lv_aload_n hx hb d_Mo_handle_65 rfl (lv_at hl 0 rfl) ?_
  refine lv_aload_n hx hb d_Mo_handle_66 rfl (lv_at hl 0 rfl) ?_
  refine ob_getI (k := 52) Cx hP ck_11 rfl w_f_Mo_188 d_Mo_handle_67 h (fun x67 h => ?_)
  refine ob_cVv (nA := 1) (As := [.int x67]) (rest := []) Cx hl.1 hP hS (fun o ho => c_Mo_write v0 x67 ho) (fun o ho => g_Mo_write v0 x67 ho) (by decide) (rfl : ob_cl[11]? = _) mv_Mo_write w_m_Mo_144 rfl (by decide +kernel) ⟨rfl, rfl⟩ ⟨by decide, by decide⟩ (Nat.le_of_ble_eq_true rfl) rfl d_Mo_handle_70 h (fun t70 H locs h hP hS => ?_)
  refine lv_goto (tgt := 126) hx hb d_Mo_handle_73 (by decide) ?_
  exact tB_Mo_handle_126 Cx t70 H locs ls v0 hP hS (lv_sub hl [0] rfl) h
set_option maxHeartbeats 4000000 in
set_option maxRecDepth 100000 in
theorem tB_Mo_handle_43 {p : Program} {l : Launch} {e : Env} {R : Room} {s : State} {m : MethodId} {args : Array Value} {below : List Frame} {meth : Method} {c : Code} {b : Nat} {D : va_G} {cA : Nat → ClassId} {adK adV : Nat → Nat} {out : ob_S} (Cx : ob_C p R s m args meth c cb_Mo_handle 4 "ObservedBlocksModel" none b D cA adK adV 6 137) : ∀ (t : ob_S) (H : Heap) (locs : List Loc) (ls : Array Slot) (v0 : Nat) (v1 : Int32), ob_H b D cA t H → va_S (ob_A b) s.heap H locs → lv_has ls 4 [(0, .ref (b + v0)), (1, .int v1)] → B_Mo_handle_43 v0 v1 t = some out → W p l e R s m args below meth c H locs 0 0 (MQ below (ob_Qv b D cA out) args s 0 0 (ob_A b)) (F0 m 43 ls []) := by
  have hx := Cx.1.1
  have hb := Cx.1.2.1
  intro t H locs ls v0 v1 hP hS hl h
  unfold B_Mo_handle_43 at h
  refine lv_aload_n hx hb d_Mo_handle_43 rfl (lv_at hl 0 rfl) ?_
  refine lv_iconst (v := 2) hx hb d_Mo_handle_44 (by decide) ?_
  refine lv_iload_n hx hb d_Mo_handle_45 rfl (lv_at hl 1 rfl) ?_
  refine lv_if_ge (tgt := 55) hx hb d_Mo_handle_46 (by decide) (fun hq => ?_) (fun hq => ?_)
  · rw [if_pos hq] at h
    refine lv_sipush (v := 130) hx hb d_Mo_handle_55 (by decide) ?_
    exact tB_Mo_handle_58 Cx t H locs ls v0 (130 : Int32) (2 : Int32) v0 hP hS (lv_sub hl [0] rfl) h
  · rw [if_neg hq] at h
    refine lv_sipush (v := 132) hx hb d_Mo_handle_49 (by decide) ?_
    refine lv_goto (tgt := 58) hx hb d_Mo_handle_52 (by decide) ?_
    exact tB_Mo_handle_58 Cx t H locs ls v0 (132 : Int32) (2 : Int32) v0 hP hS (lv_sub hl [0] rfl) h
set_option maxHeartbeats 4000000 in
set_option maxRecDepth 100000 in
theorem tB_Mo_handle_34 {p : Program} {l : Launch} {e : Env} {R : Room} {s : State} {m : MethodId} {args : Array Value} {below : List Frame} {meth : Method} {c : Code} {b : Nat} {D : va_G} {cA : Nat → ClassId} {adK adV : Nat → Nat} {out : ob_S} (Cx : ob_C p R s m args meth c cb_Mo_handle 4 "ObservedBlocksModel" none b D cA adK adV 6 137) : ∀ (t : ob_S) (H : Heap) (locs : List Loc) (ls : Array Slot) (v0 : Nat) (v1 : Int32) (s0 : Int32), ob_H b D cA t H → va_S (ob_A b) s.heap H locs → lv_has ls 4 [(0, .ref (b + v0)), (1, .int v1)] → B_Mo_handle_34 v0 v1 s0 t = some out → W p l e R s m args below meth c H locs 0 0 (MQ below (ob_Qv b D cA out) args s 0 0 (ob_A b)) (F0 m 34 ls [.int s0]) := by
  have hx := Cx.1.1
  have hb := Cx.1.2.1
  intro t H locs ls v0 v1 s0 hP hS hl h
  unfold B_Mo_handle_34 at h
  refine lv_istore_n (lv' := [(2, .int s0), (0, .ref (b + v0)), (1, .int v1)]) hx hb d_Mo_handle_34 rfl hl (by decide) rfl (fun ls hl => ?_)
  refine lv_iload_n hx hb d_Mo_handle_35 rfl (lv_at hl 2 rfl) ?_
  refine lv_if_lt (tgt := 43) hx hb d_Mo_handle_36 (by decide) (fun hq => ?_) (fun hq => ?_)
  · rw [if_pos hq] at h
    exact tB_Mo_handle_43 Cx t H locs ls v0 v1 hP hS (lv_sub hl [1, 2] rfl) h
  · rw [if_neg hq] at h
    refine lv_iload_n hx hb d_Mo_handle_39 rfl (lv_at hl 0 rfl) ?_
    refine lv_if_ge (tgt := 76) hx hb d_Mo_handle_40 (by decide) (fun hq => ?_) (fun hq => ?_)
    · rw [if_pos hq] at h
      refine lv_aload_n hx hb d_Mo_handle_76 rfl (lv_at hl 1 rfl) ?_
      refine ob_getI (k := 50) Cx hP ck_11 rfl w_f_Mo_194 d_Mo_handle_77 h (fun x77 h => ?_)
      refine lv_iconst (v := 1) hx hb d_Mo_handle_80 (by decide) ?_
      refine lv_icmp_ne (tgt := 92) hx hb d_Mo_handle_81 (by decide) (fun hq => ?_) (fun hq => ?_)
      · rw [if_pos hq] at h
        refine lv_aload_n hx hb d_Mo_handle_92 rfl (lv_at hl 1 rfl) ?_
        refine lv_iload_n hx hb d_Mo_handle_93 rfl (lv_at hl 2 rfl) ?_
        refine ob_cVi (nA := 1) (As := [.int v1]) (rest := []) Cx hl.1 hP hS (fun o ho => c_Mo_takePart v0 v1 ho) (fun o ho => g_Mo_takePart v0 v1 ho) (by decide) (rfl : ob_cl[11]? = _) mv_Mo_takePart w_m_Mo_288 rfl (by decide +kernel) ⟨rfl, rfl⟩ ⟨by decide, by decide⟩ (Nat.le_of_ble_eq_true rfl) rfl d_Mo_handle_94 h (fun x94 t94 H locs h hP hS => ?_)
        refine lv_istore_n (lv' := [(3, .int x94), (2, .int s0), (0, .ref (b + v0)), (1, .int v1)]) hx hb d_Mo_handle_97 rfl hl (by decide) rfl (fun ls hl => ?_)
        refine lv_aload_n hx hb d_Mo_handle_98 rfl (lv_at hl 2 rfl) ?_
        refine lv_iconst (v := 2) hx hb d_Mo_handle_99 (by decide) ?_
        refine lv_iload_n hx hb d_Mo_handle_100 rfl (lv_at hl 0 rfl) ?_
        refine lv_aload_n hx hb d_Mo_handle_101 rfl (lv_at hl 2 rfl) ?_
        refine ob_getI (k := 51) Cx hP ck_11 rfl w_f_Mo_197 d_Mo_handle_102 h (fun x102 h => ?_)
        refine ob_cVv (nA := 3) (As := [.int (2 : Int32), .int x94, .int x102]) (rest := []) Cx hl.1 hP hS (fun o ho => c_Mo_begin v0 (2 : Int32) x94 x102 ho) (fun o ho => g_Mo_begin v0 (2 : Int32) x94 x102 ho) (by decide) (rfl : ob_cl[11]? = _) mv_Mo_begin w_m_Mo_162 rfl (by decide +kernel) ⟨rfl, rfl⟩ ⟨by decide, by decide⟩ (Nat.le_of_ble_eq_true rfl) rfl d_Mo_handle_105 h (fun t105 H locs h hP hS => ?_)
        refine lv_aload_n hx hb d_Mo_handle_108 rfl (lv_at hl 2 rfl) ?_
        refine lv_aload_n hx hb d_Mo_handle_109 rfl (lv_at hl 2 rfl) ?_
        refine ob_getI (k := 52) Cx hP ck_11 rfl w_f_Mo_188 d_Mo_handle_110 h (fun x110 h => ?_)
        refine ob_cVv (nA := 1) (As := [.int x110]) (rest := []) Cx hl.1 hP hS (fun o ho => c_Mo_write v0 x110 ho) (fun o ho => g_Mo_write v0 x110 ho) (by decide) (rfl : ob_cl[11]? = _) mv_Mo_write w_m_Mo_144 rfl (by decide +kernel) ⟨rfl, rfl⟩ ⟨by decide, by decide⟩ (Nat.le_of_ble_eq_true rfl) rfl d_Mo_handle_113 h (fun t113 H locs h hP hS => ?_)
        refine lv_aload_n hx hb d_Mo_handle_116 rfl (lv_at hl 2 rfl) ?_
        refine lv_bipush (v := 27) hx hb d_Mo_handle_117 (by decide) ?_
        refine lv_aload_n hx hb d_Mo_handle_119 rfl (lv_at hl 2 rfl) ?_
        refine ob_getI (k := 58) Cx hP ck_11 rfl w_f_Mo_172 d_Mo_handle_120 h (fun x120 h => ?_)
        refine ob_cVv (nA := 2) (As := [.int (27 : Int32), .int x120]) (rest := []) Cx hl.1 hP hS (fun o ho => c_Mo_option v0 (27 : Int32) x120 ho) (fun o ho => g_Mo_option v0 (27 : Int32) x120 ho) (by decide) (rfl : ob_cl[11]? = _) mv_Mo_option w_m_Mo_209 rfl (by decide +kernel) ⟨rfl, rfl⟩ ⟨by decide, by decide⟩ (Nat.le_of_ble_eq_true rfl) rfl d_Mo_handle_123 h (fun t123 H locs h hP hS => ?_)
        exact tB_Mo_handle_126 Cx t123 H locs ls v0 hP hS (lv_sub hl [2] rfl) h
      · rw [if_neg (fun z => z hq)] at h
        refine lv_aload_n hx hb d_Mo_handle_84 rfl (lv_at hl 1 rfl) ?_
        refine lv_iload_n hx hb d_Mo_handle_85 rfl (lv_at hl 2 rfl) ?_
        refine ob_cVv (nA := 1) (As := [.int v1]) (rest := []) Cx hl.1 hP hS (fun o ho => c_Mo_answerGet v0 v1 ho) (fun o ho => g_Mo_answerGet v0 v1 ho) (by decide) (rfl : ob_cl[11]? = _) mv_Mo_answerGet w_m_Mo_285 rfl (by decide +kernel) ⟨rfl, rfl⟩ ⟨by decide, by decide⟩ (Nat.le_of_ble_eq_true rfl) rfl d_Mo_handle_86 h (fun t86 H locs h hP hS => ?_)
        refine lv_goto (tgt := 126) hx hb d_Mo_handle_89 (by decide) ?_
        exact tB_Mo_handle_126 Cx t86 H locs ls v0 hP hS (lv_sub hl [1] rfl) h
    · rw [if_neg hq] at h
      exact tB_Mo_handle_43 Cx t H locs ls v0 v1 hP hS (lv_sub hl [1, 2] rfl) h
theorem g_Mo_handle (v0 : Nat) {t : ob_S} {out : ob_S} (h : X_Mo_handle v0 t = some out) : v0 < ob_n t ∧ ob_k t v0 = 11 := by
  unfold X_Mo_handle ob_this at h
  by_cases q : v0 < ob_n t ∧ ob_k t v0 = 11
  · exact q
  · rw [if_neg q] at h
    cases h
set_option maxHeartbeats 4000000 in
set_option maxRecDepth 100000 in
theorem c_Mo_handle {l : Launch} {b : Nat} {D : va_G} {cA : Nat → ClassId} {adK adV : Nat → Nat} (v0 : Nat) {t : ob_S} {out : ob_S} (h : X_Mo_handle v0 t = some out) : Met l y_Mo_handle (Cond.code y_Mo_handle cb_Mo_handle 4 none :: ob_T) { frames := 6, cells := 0, slots := 0, locals := 137 } (ob_Pre b D cA adK adV [.ref (b + v0)] t) (ob_Qv b D cA out) 0 0 (ob_A b) := by
  refine ob_met (by decide) (Nat.le_of_ble_eq_true rfl) ?_
  intro p e R s m args below meth c ls Cx hP hS hl
  have hl : lv_has ls 4 [(0, .ref (b + v0))] := hl
  have hx := Cx.1.1
  have hb := Cx.1.2.1
  have hg := g_Mo_handle v0 h
  unfold X_Mo_handle ob_this at h
  rw [if_pos hg] at h
  obtain ⟨H, hH⟩ : ∃ H, H = s.heap := ⟨_, rfl⟩
  obtain ⟨locs, hL⟩ : ∃ locs : List Loc, locs = [] := ⟨_, rfl⟩
  rw [← hH] at hP
  have hS : va_S (ob_A b) s.heap H locs := by rw [hH, hL]; exact hS
  suffices hW : W p l e R s m args below meth c H locs 0 0 (MQ below (ob_Qv b D cA out) args s 0 0 (ob_A b)) (F0 m 0 ls []) by rw [hH, hL] at hW; exact hW
  refine lv_aload_n hx hb d_Mo_handle_0 rfl (lv_at hl 0 rfl) ?_
  refine lv_dup hx hb d_Mo_handle_1 rfl ?_
  refine ob_getI (k := 38) Cx hP ck_11 rfl w_f_Mo_278 d_Mo_handle_2 h (fun x2 h => ?_)
  refine lv_iconst (v := 1) hx hb d_Mo_handle_5 (by decide) ?_
  refine lv_iadd hx hb d_Mo_handle_6 ?_
  refine ob_putI (k := 38) Cx hP hS ck_11 rfl rfl rfl w_f_Mo_278 d_Mo_handle_7 h (fun t7 H locs h hP hS => ?_)
  refine lv_aload_n hx hb d_Mo_handle_10 rfl (lv_at hl 0 rfl) ?_
  refine ob_cVi (nA := 0) (As := []) (rest := []) Cx hl.1 hP hS (fun o ho => c_Mo_resource v0 ho) (fun o ho => g_Mo_resource v0 ho) (by decide) (rfl : ob_cl[11]? = _) mv_Mo_resource w_m_Mo_281 rfl (by decide +kernel) ⟨rfl, rfl⟩ ⟨by decide, by decide⟩ (Nat.le_of_ble_eq_true rfl) rfl d_Mo_handle_11 h (fun x11 t11 H locs h hP hS => ?_)
  refine lv_istore_n (lv' := [(1, .int x11), (0, .ref (b + v0))]) hx hb d_Mo_handle_14 rfl hl (by decide) rfl (fun ls hl => ?_)
  refine lv_aload_n hx hb d_Mo_handle_15 rfl (lv_at hl 1 rfl) ?_
  refine ob_getI (k := 50) Cx hP ck_11 rfl w_f_Mo_194 d_Mo_handle_16 h (fun x16 h => ?_)
  refine lv_iconst (v := 1) hx hb d_Mo_handle_19 (by decide) ?_
  refine lv_icmp_ne (tgt := 30) hx hb d_Mo_handle_20 (by decide) (fun hq => ?_) (fun hq => ?_)
  · rw [if_pos hq] at h
    refine lv_aload_n hx hb d_Mo_handle_30 rfl (lv_at hl 1 rfl) ?_
    refine ob_getI (k := 58) Cx hP ck_11 rfl w_f_Mo_172 d_Mo_handle_31 h (fun x31 h => ?_)
    exact tB_Mo_handle_34 Cx t11 H locs ls v0 x11 x31 hP hS (lv_sub hl [1, 0] rfl) h
  · rw [if_neg (fun z => z hq)] at h
    refine lv_aload_n hx hb d_Mo_handle_23 rfl (lv_at hl 1 rfl) ?_
    refine ob_getI (k := 57) Cx hP ck_11 rfl w_f_Mo_169 d_Mo_handle_24 h (fun x24 h => ?_)
    refine lv_goto (tgt := 34) hx hb d_Mo_handle_27 (by decide) ?_
    exact tB_Mo_handle_34 Cx t11 H locs ls v0 x11 x24 hP hS (lv_sub hl [1, 0] rfl) h
set_option maxHeartbeats 4000000 in
set_option maxRecDepth 100000 in
theorem tB_Mo_toServer_107 {p : Program} {l : Launch} {e : Env} {R : Room} {s : State} {m : MethodId} {args : Array Value} {below : List Frame} {meth : Method} {c : Code} {b : Nat} {D : va_G} {cA : Nat → ClassId} {adK adV : Nat → Nat} {out : ob_S} (Cx : ob_C p R s m args meth c cb_Mo_toServer 3 "ObservedBlocksModel" none b D cA adK adV 7 160) : ∀ (t : ob_S) (H : Heap) (locs : List Loc) (ls : Array Slot), ob_H b D cA t H → va_S (ob_A b) s.heap H locs → lv_has ls 3 [] → B_Mo_toServer_107 t = some out → W p l e R s m args below meth c H locs 0 0 (MQ below (ob_Qv b D cA out) args s 0 0 (ob_A b)) (F0 m 107 ls []) := by
  have hx := Cx.1.1
  have hb := Cx.1.2.1
  intro t H locs ls  hP hS hl h
  unfold B_Mo_toServer_107 at h
  refine lv_goto (tgt := 215) hx hb d_Mo_toServer_107 (by decide) ?_
  exact ob_vret Cx hP hS d_Mo_toServer_215 h
set_option maxHeartbeats 4000000 in
set_option maxRecDepth 100000 in
theorem tB_Mo_toServer_64 {p : Program} {l : Launch} {e : Env} {R : Room} {s : State} {m : MethodId} {args : Array Value} {below : List Frame} {meth : Method} {c : Code} {b : Nat} {D : va_G} {cA : Nat → ClassId} {adK adV : Nat → Nat} {out : ob_S} (Cx : ob_C p R s m args meth c cb_Mo_toServer 3 "ObservedBlocksModel" none b D cA adK adV 7 160) : ∀ (fu : Nat), ∀ (t : ob_S) (H : Heap) (locs : List Loc) (ls : Array Slot) (v0 : Nat) (v1 : Int32) (v2 : Int32), ob_H b D cA t H → va_S (ob_A b) s.heap H locs → lv_has ls 3 [(0, .ref (b + v0)), (1, .int v1), (2, .int v2)] → B_Mo_toServer_64 fu v0 v1 v2 t = some out → W p l e R s m args below meth c H locs 0 0 (MQ below (ob_Qv b D cA out) args s 0 0 (ob_A b)) (F0 m 64 ls []) := by
  have hx := Cx.1.1
  have hb := Cx.1.2.1
  intro fu
  induction fu with
  | zero =>
    intro t H locs ls v0 v1 v2 hP hS hl h
    cases h
  | succ fu ih =>
    intro t H locs ls v0 v1 v2 hP hS hl h
    rw [B_Mo_toServer_64] at h
    refine lv_iload_n hx hb d_Mo_toServer_64 rfl (lv_at hl 2 rfl) ?_
    refine lv_aload_n hx hb d_Mo_toServer_65 rfl (lv_at hl 0 rfl) ?_
    refine ob_getI (k := 45) Cx hP ck_11 rfl w_f_Mo_138 d_Mo_toServer_66 h (fun x66 h => ?_)
    refine lv_icmp_ge (tgt := 95) hx hb d_Mo_toServer_69 (by decide) (fun hq => ?_) (fun hq => ?_)
    · rw [if_pos hq] at h
      refine lv_aload_n hx hb d_Mo_toServer_95 rfl (lv_at hl 0 rfl) ?_
      refine lv_iconst (v := 0) hx hb d_Mo_toServer_96 (by decide) ?_
      refine ob_cVv (nA := 1) (As := [.int (0 : Int32)]) (rest := []) Cx hl.1 hP hS (fun o ho => c_Mo_send v0 (0 : Int32) ho) (fun o ho => g_Mo_send v0 (0 : Int32) ho) (by decide) (rfl : ob_cl[11]? = _) mv_Mo_send w_m_Mo_159 rfl (by decide +kernel) ⟨rfl, rfl⟩ ⟨by decide, by decide⟩ (Nat.le_of_ble_eq_true rfl) rfl d_Mo_toServer_97 h (fun t97 H locs h hP hS => ?_)
      refine lv_goto (tgt := 107) hx hb d_Mo_toServer_100 (by decide) ?_
      exact tB_Mo_toServer_107 Cx t97 H locs ls hP hS (lv_sub hl [] rfl) h
    · rw [if_neg hq] at h
      refine lv_aload_n hx hb d_Mo_toServer_72 rfl (lv_at hl 0 rfl) ?_
      refine ob_getR (k := 44) Cx hP ck_11 rfl w_f_Mo_126 d_Mo_toServer_73 h (fun n73 h => ?_)
      refine lv_iload_n hx hb d_Mo_toServer_76 rfl (lv_at hl 2 rfl) ?_
      refine lv_aload_n hx hb d_Mo_toServer_77 rfl (lv_at hl 0 rfl) ?_
      refine ob_getR (k := 42) Cx hP ck_11 rfl w_f_Mo_120 d_Mo_toServer_78 h (fun n78 h => ?_)
      refine lv_bipush (v := 64) hx hb d_Mo_toServer_81 (by decide) ?_
      refine lv_iload_n hx hb d_Mo_toServer_83 rfl (lv_at hl 1 rfl) ?_
      refine lv_imul hx hb d_Mo_toServer_84 ?_
      refine lv_iload_n hx hb d_Mo_toServer_85 rfl (lv_at hl 2 rfl) ?_
      refine lv_iadd hx hb d_Mo_toServer_86 ?_
      refine ob_aldI Cx hP d_Mo_toServer_87 h (fun x87 h => ?_)
      refine ob_astI Cx hP hS d_Mo_toServer_88 h (fun t88 H locs h hP hS => ?_)
      refine lv_iinc (v := (v2 + (1 : Int32))) (lv' := [(2, .int (v2 + (1 : Int32))), (0, .ref (b + v0)), (1, .int v1)]) hx hb d_Mo_toServer_89 hl (k := 2) rfl rfl (by decide) rfl (fun ls hl => ?_)
      refine lv_goto (tgt := 64) hx hb d_Mo_toServer_92 (by decide) ?_
      exact ih t88 H locs ls v0 v1 (v2 + (1 : Int32)) hP hS (lv_sub hl [1, 2, 0] rfl) h
set_option maxHeartbeats 4000000 in
set_option maxRecDepth 100000 in
theorem tB_Mo_toServer_103 {p : Program} {l : Launch} {e : Env} {R : Room} {s : State} {m : MethodId} {args : Array Value} {below : List Frame} {meth : Method} {c : Code} {b : Nat} {D : va_G} {cA : Nat → ClassId} {adK adV : Nat → Nat} {out : ob_S} (Cx : ob_C p R s m args meth c cb_Mo_toServer 3 "ObservedBlocksModel" none b D cA adK adV 7 160) : ∀ (t : ob_S) (H : Heap) (locs : List Loc) (ls : Array Slot) (v0 : Nat), ob_H b D cA t H → va_S (ob_A b) s.heap H locs → lv_has ls 3 [(0, .ref (b + v0))] → B_Mo_toServer_103 v0 t = some out → W p l e R s m args below meth c H locs 0 0 (MQ below (ob_Qv b D cA out) args s 0 0 (ob_A b)) (F0 m 103 ls []) := by
  have hx := Cx.1.1
  have hb := Cx.1.2.1
  intro t H locs ls v0 hP hS hl h
  unfold B_Mo_toServer_103 at h
  refine lv_aload_n hx hb d_Mo_toServer_103 rfl (lv_at hl 0 rfl) ?_
  refine ob_cVv (nA := 0) (As := []) (rest := []) Cx hl.1 hP hS (fun o ho => c_Mo_handle v0 ho) (fun o ho => g_Mo_handle v0 ho) (by decide) (rfl : ob_cl[11]? = _) mv_Mo_handle w_m_Mo_294 rfl (by decide +kernel) ⟨rfl, rfl⟩ ⟨by decide, by decide⟩ (Nat.le_of_ble_eq_true rfl) rfl d_Mo_toServer_104 h (fun t104 H locs h hP hS => ?_)
  exact tB_Mo_toServer_107 Cx t104 H locs ls hP hS (lv_sub hl [] rfl) h
set_option maxHeartbeats 4000000 in
set_option maxRecDepth 100000 in
theorem tB_Mo_toServer_23 {p : Program} {l : Launch} {e : Env} {R : Room} {s : State} {m : MethodId} {args : Array Value} {below : List Frame} {meth : Method} {c : Code} {b : Nat} {D : va_G} {cA : Nat → ClassId} {adK adV : Nat → Nat} {out : ob_S} (Cx : ob_C p R s m args meth c cb_Mo_toServer 3 "ObservedBlocksModel" none b D cA adK adV 7 160) : ∀ (t : ob_S) (H : Heap) (locs : List Loc) (ls : Array Slot) (v0 : Nat), ob_H b D cA t H → va_S (ob_A b) s.heap H locs → lv_has ls 3 [(0, .ref (b + v0))] → B_Mo_toServer_23 v0 t = some out → W p l e R s m args below meth c H locs 0 0 (MQ below (ob_Qv b D cA out) args s 0 0 (ob_A b)) (F0 m 23 ls []) := by
  have hx := Cx.1.1
  have hb := Cx.1.2.1
  intro t H locs ls v0 hP hS hl h
  unfold B_Mo_toServer_23 at h
  refine lv_aload_n hx hb d_Mo_toServer_23 rfl (lv_at hl 0 rfl) ?_
  refine lv_aload_n hx hb d_Mo_toServer_24 rfl (lv_at hl 0 rfl) ?_
  refine ob_getI (k := 51) Cx hP ck_11 rfl w_f_Mo_197 d_Mo_toServer_25 h (fun x25 h => ?_)
  refine ob_cVi (nA := 1) (As := [.int x25]) (rest := []) Cx hl.1 hP hS (fun o ho => c_Mo_answerOf v0 x25 ho) (fun o ho => g_Mo_answerOf v0 x25 ho) (by decide) (rfl : ob_cl[11]? = _) mv_Mo_answerOf w_m_Mo_269 rfl (by decide +kernel) ⟨rfl, rfl⟩ ⟨by decide, by decide⟩ (Nat.le_of_ble_eq_true rfl) rfl d_Mo_toServer_28 h (fun x28 t28 H locs h hP hS => ?_)
  refine lv_istore_n (lv' := [(1, .int x28), (0, .ref (b + v0))]) hx hb d_Mo_toServer_31 rfl hl (by decide) rfl (fun ls hl => ?_)
  refine lv_iload_n hx hb d_Mo_toServer_32 rfl (lv_at hl 0 rfl) ?_
  refine lv_if_lt (tgt := 103) hx hb d_Mo_toServer_33 (by decide) (fun hq => ?_) (fun hq => ?_)
  · rw [if_pos hq] at h
    exact tB_Mo_toServer_103 Cx t28 H locs ls v0 hP hS (lv_sub hl [1] rfl) h
  · rw [if_neg hq] at h
    refine lv_aload_n hx hb d_Mo_toServer_36 rfl (lv_at hl 1 rfl) ?_
    refine ob_getI (k := 4) Cx hP ck_11 rfl w_f_Mo_275 d_Mo_toServer_37 h (fun x37 h => ?_)
    refine lv_aload_n hx hb d_Mo_toServer_40 rfl (lv_at hl 1 rfl) ?_
    refine ob_getR (k := 41) Cx hP ck_11 rfl w_f_Mo_117 d_Mo_toServer_41 h (fun n41 h => ?_)
    refine lv_iload_n hx hb d_Mo_toServer_44 rfl (lv_at hl 0 rfl) ?_
    refine ob_aldI Cx hP d_Mo_toServer_45 h (fun x45 h => ?_)
    refine lv_isub hx hb d_Mo_toServer_46 ?_
    refine lv_bipush (v := 100) hx hb d_Mo_toServer_47 (by decide) ?_
    refine lv_icmp_ge (tgt := 103) hx hb d_Mo_toServer_49 (by decide) (fun hq => ?_) (fun hq => ?_)
    · rw [if_pos hq] at h
      exact tB_Mo_toServer_103 Cx t28 H locs ls v0 hP hS (lv_sub hl [1] rfl) h
    · rw [if_neg hq] at h
      refine lv_aload_n hx hb d_Mo_toServer_52 rfl (lv_at hl 1 rfl) ?_
      refine lv_aload_n hx hb d_Mo_toServer_53 rfl (lv_at hl 1 rfl) ?_
      refine ob_getR (k := 43) Cx hP ck_11 rfl w_f_Mo_123 d_Mo_toServer_54 h (fun n54 h => ?_)
      refine lv_iload_n hx hb d_Mo_toServer_57 rfl (lv_at hl 0 rfl) ?_
      refine ob_aldI Cx hP d_Mo_toServer_58 h (fun x58 h => ?_)
      refine ob_putI (k := 45) Cx hP hS ck_11 rfl rfl rfl w_f_Mo_138 d_Mo_toServer_59 h (fun t59 H locs h hP hS => ?_)
      refine lv_iconst (v := 0) hx hb d_Mo_toServer_62 (by decide) ?_
      refine lv_istore_n (lv' := [(2, .int (0 : Int32)), (1, .int x28), (0, .ref (b + v0))]) hx hb d_Mo_toServer_63 rfl hl (by decide) rfl (fun ls hl => ?_)
      exact tB_Mo_toServer_64 Cx ob_fu t59 H locs ls v0 x28 (0 : Int32) hP hS (lv_sub hl [2, 1, 0] rfl) h
set_option maxHeartbeats 4000000 in
set_option maxRecDepth 100000 in
theorem tB_Mo_toServer_209 {p : Program} {l : Launch} {e : Env} {R : Room} {s : State} {m : MethodId} {args : Array Value} {below : List Frame} {meth : Method} {c : Code} {b : Nat} {D : va_G} {cA : Nat → ClassId} {adK adV : Nat → Nat} {out : ob_S} (Cx : ob_C p R s m args meth c cb_Mo_toServer 3 "ObservedBlocksModel" none b D cA adK adV 7 160) {k135 : Nat → Int32 → ob_S → Option ob_S} (hk135 : ∀ (t : ob_S) (H : Heap) (locs : List Loc) (ls : Array Slot) (v0 : Nat) (v1 : Int32), ob_H b D cA t H → va_S (ob_A b) s.heap H locs → lv_has ls 3 [(0, .ref (b + v0)), (1, .int v1)] → k135 v0 v1 t = some out → W p l e R s m args below meth c H locs 0 0 (MQ below (ob_Qv b D cA out) args s 0 0 (ob_A b)) (F0 m 135 ls [])) : ∀ (t : ob_S) (H : Heap) (locs : List Loc) (ls : Array Slot) (v0 : Nat) (v1 : Int32), ob_H b D cA t H → va_S (ob_A b) s.heap H locs → lv_has ls 3 [(0, .ref (b + v0)), (1, .int v1)] → B_Mo_toServer_209 k135 v0 v1 t = some out → W p l e R s m args below meth c H locs 0 0 (MQ below (ob_Qv b D cA out) args s 0 0 (ob_A b)) (F0 m 209 ls []) := by
  have hx := Cx.1.1
  have hb := Cx.1.2.1
  intro t H locs ls v0 v1 hP hS hl h
  unfold B_Mo_toServer_209 at h
  refine lv_iinc (v := (v1 + (1 : Int32))) (lv' := [(1, .int (v1 + (1 : Int32))), (0, .ref (b + v0))]) hx hb d_Mo_toServer_209 hl (k := 1) rfl rfl (by decide) rfl (fun ls hl => ?_)
  refine lv_goto (tgt := 135) hx hb d_Mo_toServer_212 (by decide) ?_
  exact hk135 t H locs ls v0 (v1 + (1 : Int32)) hP hS (lv_sub hl [1, 0] rfl) h
set_option maxHeartbeats 4000000 in
set_option maxRecDepth 100000 in
theorem tB_Mo_toServer_135 {p : Program} {l : Launch} {e : Env} {R : Room} {s : State} {m : MethodId} {args : Array Value} {below : List Frame} {meth : Method} {c : Code} {b : Nat} {D : va_G} {cA : Nat → ClassId} {adK adV : Nat → Nat} {out : ob_S} (Cx : ob_C p R s m args meth c cb_Mo_toServer 3 "ObservedBlocksModel" none b D cA adK adV 7 160) : ∀ (fu : Nat), ∀ (t : ob_S) (H : Heap) (locs : List Loc) (ls : Array Slot) (v0 : Nat) (v1 : Int32), ob_H b D cA t H → va_S (ob_A b) s.heap H locs → lv_has ls 3 [(0, .ref (b + v0)), (1, .int v1)] → B_Mo_toServer_135 fu v0 v1 t = some out → W p l e R s m args below meth c H locs 0 0 (MQ below (ob_Qv b D cA out) args s 0 0 (ob_A b)) (F0 m 135 ls []) := by
  have hx := Cx.1.1
  have hb := Cx.1.2.1
  intro fu
  induction fu with
  | zero =>
    intro t H locs ls v0 v1 hP hS hl h
    cases h
  | succ fu ih =>
    intro t H locs ls v0 v1 hP hS hl h
    rw [B_Mo_toServer_135] at h
    refine lv_iload_n hx hb d_Mo_toServer_135 rfl (lv_at hl 1 rfl) ?_
    refine lv_aload_n hx hb d_Mo_toServer_136 rfl (lv_at hl 0 rfl) ?_
    refine ob_getI (k := 32) Cx hP ck_11 rfl w_f_Mo_242 d_Mo_toServer_137 h (fun x137 h => ?_)
    refine lv_icmp_ge (tgt := 215) hx hb d_Mo_toServer_140 (by decide) (fun hq => ?_) (fun hq => ?_)
    · rw [if_pos hq] at h
      exact ob_vret Cx hP hS d_Mo_toServer_215 h
    · rw [if_neg hq] at h
      refine lv_aload_n hx hb d_Mo_toServer_143 rfl (lv_at hl 0 rfl) ?_
      refine ob_getR (k := 7) Cx hP ck_11 rfl w_f_Mo_26 d_Mo_toServer_144 h (fun n144 h => ?_)
      refine lv_iconst (v := 2) hx hb d_Mo_toServer_147 (by decide) ?_
      refine lv_iload_n hx hb d_Mo_toServer_148 rfl (lv_at hl 1 rfl) ?_
      refine lv_iadd hx hb d_Mo_toServer_149 ?_
      refine ob_aldZ Cx hP d_Mo_toServer_150 h (fun x150 h => ?_)
      refine lv_if_eq (tgt := 209) hx hb d_Mo_toServer_151 (by decide) (fun hq => ?_) (fun hq => ?_)
      · rw [if_pos hq] at h
        exact tB_Mo_toServer_209 Cx ih t H locs ls v0 v1 hP hS (lv_sub hl [0, 1] rfl) h
      · rw [if_neg hq] at h
        refine lv_aload_n hx hb d_Mo_toServer_154 rfl (lv_at hl 0 rfl) ?_
        refine ob_getR (k := 8) Cx hP ck_11 rfl w_f_Mo_30 d_Mo_toServer_155 h (fun n155 h => ?_)
        refine lv_iconst (v := 2) hx hb d_Mo_toServer_158 (by decide) ?_
        refine lv_iload_n hx hb d_Mo_toServer_159 rfl (lv_at hl 1 rfl) ?_
        refine lv_iadd hx hb d_Mo_toServer_160 ?_
        refine ob_aldI Cx hP d_Mo_toServer_161 h (fun x161 h => ?_)
        refine lv_aload_n hx hb d_Mo_toServer_162 rfl (lv_at hl 0 rfl) ?_
        refine ob_getI (k := 51) Cx hP ck_11 rfl w_f_Mo_197 d_Mo_toServer_163 h (fun x163 h => ?_)
        refine lv_icmp_ne (tgt := 209) hx hb d_Mo_toServer_166 (by decide) (fun hq => ?_) (fun hq => ?_)
        · rw [if_pos hq] at h
          exact tB_Mo_toServer_209 Cx ih t H locs ls v0 v1 hP hS (lv_sub hl [0, 1] rfl) h
        · rw [if_neg (fun z => z hq)] at h
          refine lv_aload_n hx hb d_Mo_toServer_169 rfl (lv_at hl 0 rfl) ?_
          refine ob_getR (k := 7) Cx hP ck_11 rfl w_f_Mo_26 d_Mo_toServer_170 h (fun n170 h => ?_)
          refine lv_iconst (v := 2) hx hb d_Mo_toServer_173 (by decide) ?_
          refine lv_iload_n hx hb d_Mo_toServer_174 rfl (lv_at hl 1 rfl) ?_
          refine lv_iadd hx hb d_Mo_toServer_175 ?_
          refine lv_iconst (v := 0) hx hb d_Mo_toServer_176 (by decide) ?_
          refine ob_astZ Cx hP hS d_Mo_toServer_177 h (fun t177 H locs h hP hS => ?_)
          refine lv_aload_n hx hb d_Mo_toServer_178 rfl (lv_at hl 0 rfl) ?_
          refine ob_getI (k := 49) Cx hP ck_11 rfl w_f_Mo_191 d_Mo_toServer_179 h (fun x179 h => ?_)
          refine lv_iconst (v := 3) hx hb d_Mo_toServer_182 (by decide) ?_
          refine lv_icmp_ne (tgt := 194) hx hb d_Mo_toServer_183 (by decide) (fun hq => ?_) (fun hq => ?_)
          · rw [if_pos hq] at h
            refine lv_aload_n hx hb d_Mo_toServer_194 rfl (lv_at hl 0 rfl) ?_
            refine ob_getR (k := 36) Cx hP ck_11 rfl w_f_Mo_111 d_Mo_toServer_195 h (fun n195 h => ?_)
            refine lv_iload_n hx hb d_Mo_toServer_198 rfl (lv_at hl 1 rfl) ?_
            refine ob_aldZ Cx hP d_Mo_toServer_199 h (fun x199 h => ?_)
            refine lv_if_eq (tgt := 208) hx hb d_Mo_toServer_200 (by decide) (fun hq => ?_) (fun hq => ?_)
            · rw [if_pos hq] at h
              exact ob_vret Cx hP hS d_Mo_toServer_208 h
            · rw [if_neg hq] at h
              refine lv_aload_n hx hb d_Mo_toServer_203 rfl (lv_at hl 0 rfl) ?_
              refine lv_iload_n hx hb d_Mo_toServer_204 rfl (lv_at hl 1 rfl) ?_
              refine ob_cVv (nA := 1) (As := [.int v1]) (rest := []) Cx hl.1 hP hS (fun o ho => c_Mo_tell v0 v1 ho) (fun o ho => g_Mo_tell v0 v1 ho) (by decide) (rfl : ob_cl[11]? = _) mv_Mo_tell w_m_Mo_251 rfl (by decide +kernel) ⟨rfl, rfl⟩ ⟨by decide, by decide⟩ (Nat.le_of_ble_eq_true rfl) rfl d_Mo_toServer_205 h (fun t205 H locs h hP hS => ?_)
              exact ob_vret Cx hP hS d_Mo_toServer_208 h
          · rw [if_neg (fun z => z hq)] at h
            refine lv_aload_n hx hb d_Mo_toServer_186 rfl (lv_at hl 0 rfl) ?_
            refine lv_iload_n hx hb d_Mo_toServer_187 rfl (lv_at hl 1 rfl) ?_
            refine ob_cVv (nA := 1) (As := [.int v1]) (rest := []) Cx hl.1 hP hS (fun o ho => c_Mo_dropWatcher v0 v1 ho) (fun o ho => g_Mo_dropWatcher v0 v1 ho) (by decide) (rfl : ob_cl[11]? = _) mv_Mo_dropWatcher w_m_Mo_260 rfl (by decide +kernel) ⟨rfl, rfl⟩ ⟨by decide, by decide⟩ (Nat.le_of_ble_eq_true rfl) rfl d_Mo_toServer_188 h (fun t188 H locs h hP hS => ?_)
            refine lv_goto (tgt := 208) hx hb d_Mo_toServer_191 (by decide) ?_
            exact ob_vret Cx hP hS d_Mo_toServer_208 h
set_option maxHeartbeats 4000000 in
set_option maxRecDepth 100000 in
theorem tB_Mo_toServer_126 {p : Program} {l : Launch} {e : Env} {R : Room} {s : State} {m : MethodId} {args : Array Value} {below : List Frame} {meth : Method} {c : Code} {b : Nat} {D : va_G} {cA : Nat → ClassId} {adK adV : Nat → Nat} {out : ob_S} (Cx : ob_C p R s m args meth c cb_Mo_toServer 3 "ObservedBlocksModel" none b D cA adK adV 7 160) : ∀ (t : ob_S) (H : Heap) (locs : List Loc) (ls : Array Slot) (v0 : Nat), ob_H b D cA t H → va_S (ob_A b) s.heap H locs → lv_has ls 3 [(0, .ref (b + v0))] → B_Mo_toServer_126 v0 t = some out → W p l e R s m args below meth c H locs 0 0 (MQ below (ob_Qv b D cA out) args s 0 0 (ob_A b)) (F0 m 126 ls []) := by
  have hx := Cx.1.1
  have hb := Cx.1.2.1
  intro t H locs ls v0 hP hS hl h
  unfold B_Mo_toServer_126 at h
  refine lv_aload_n hx hb d_Mo_toServer_126 rfl (lv_at hl 0 rfl) ?_
  refine ob_getI (k := 50) Cx hP ck_11 rfl w_f_Mo_194 d_Mo_toServer_127 h (fun x127 h => ?_)
  refine lv_if_ne (tgt := 215) hx hb d_Mo_toServer_130 (by decide) (fun hq => ?_) (fun hq => ?_)
  · rw [if_pos hq] at h
    exact ob_vret Cx hP hS d_Mo_toServer_215 h
  · rw [if_neg (fun z => z hq)] at h
    refine lv_iconst (v := 0) hx hb d_Mo_toServer_133 (by decide) ?_
    refine lv_istore_n (lv' := [(1, .int (0 : Int32)), (0, .ref (b + v0))]) hx hb d_Mo_toServer_134 rfl hl (by decide) rfl (fun ls hl => ?_)
    exact tB_Mo_toServer_135 Cx ob_fu t H locs ls v0 (0 : Int32) hP hS (lv_sub hl [1, 0] rfl) h
set_option maxHeartbeats 4000000 in
set_option maxRecDepth 100000 in
theorem tB_Mo_toServer_110 {p : Program} {l : Launch} {e : Env} {R : Room} {s : State} {m : MethodId} {args : Array Value} {below : List Frame} {meth : Method} {c : Code} {b : Nat} {D : va_G} {cA : Nat → ClassId} {adK adV : Nat → Nat} {out : ob_S} (Cx : ob_C p R s m args meth c cb_Mo_toServer 3 "ObservedBlocksModel" none b D cA adK adV 7 160) : ∀ (t : ob_S) (H : Heap) (locs : List Loc) (ls : Array Slot) (v0 : Nat), ob_H b D cA t H → va_S (ob_A b) s.heap H locs → lv_has ls 3 [(0, .ref (b + v0))] → B_Mo_toServer_110 v0 t = some out → W p l e R s m args below meth c H locs 0 0 (MQ below (ob_Qv b D cA out) args s 0 0 (ob_A b)) (F0 m 110 ls []) := by
  have hx := Cx.1.1
  have hb := Cx.1.2.1
  intro t H locs ls v0 hP hS hl h
  unfold B_Mo_toServer_110 at h
  refine lv_aload_n hx hb d_Mo_toServer_110 rfl (lv_at hl 0 rfl) ?_
  refine ob_getI (k := 49) Cx hP ck_11 rfl w_f_Mo_191 d_Mo_toServer_111 h (fun x111 h => ?_)
  refine lv_iconst (v := 2) hx hb d_Mo_toServer_114 (by decide) ?_
  refine lv_icmp_eq (tgt := 126) hx hb d_Mo_toServer_115 (by decide) (fun hq => ?_) (fun hq => ?_)
  · rw [if_pos hq] at h
    exact tB_Mo_toServer_126 Cx t H locs ls v0 hP hS (lv_sub hl [0] rfl) h
  · rw [if_neg hq] at h
    refine lv_aload_n hx hb d_Mo_toServer_118 rfl (lv_at hl 0 rfl) ?_
    refine ob_getI (k := 49) Cx hP ck_11 rfl w_f_Mo_191 d_Mo_toServer_119 h (fun x119 h => ?_)
    refine lv_iconst (v := 3) hx hb d_Mo_toServer_122 (by decide) ?_
    refine lv_icmp_ne (tgt := 215) hx hb d_Mo_toServer_123 (by decide) (fun hq => ?_) (fun hq => ?_)
    · rw [if_pos hq] at h
      exact ob_vret Cx hP hS d_Mo_toServer_215 h
    · rw [if_neg (fun z => z hq)] at h
      exact tB_Mo_toServer_126 Cx t H locs ls v0 hP hS (lv_sub hl [0] rfl) h
theorem g_Mo_toServer (v0 : Nat) {t : ob_S} {out : ob_S} (h : X_Mo_toServer v0 t = some out) : v0 < ob_n t ∧ ob_k t v0 = 11 := by
  unfold X_Mo_toServer ob_this at h
  by_cases q : v0 < ob_n t ∧ ob_k t v0 = 11
  · exact q
  · rw [if_neg q] at h
    cases h
set_option maxHeartbeats 4000000 in
set_option maxRecDepth 100000 in
theorem c_Mo_toServer {l : Launch} {b : Nat} {D : va_G} {cA : Nat → ClassId} {adK adV : Nat → Nat} (v0 : Nat) {t : ob_S} {out : ob_S} (h : X_Mo_toServer v0 t = some out) : Met l y_Mo_toServer (Cond.code y_Mo_toServer cb_Mo_toServer 3 none :: ob_T) { frames := 7, cells := 0, slots := 0, locals := 160 } (ob_Pre b D cA adK adV [.ref (b + v0)] t) (ob_Qv b D cA out) 0 0 (ob_A b) := by
  refine ob_met (by decide) (Nat.le_of_ble_eq_true rfl) ?_
  intro p e R s m args below meth c ls Cx hP hS hl
  have hl : lv_has ls 3 [(0, .ref (b + v0))] := hl
  have hx := Cx.1.1
  have hb := Cx.1.2.1
  have hg := g_Mo_toServer v0 h
  unfold X_Mo_toServer ob_this at h
  rw [if_pos hg] at h
  obtain ⟨H, hH⟩ : ∃ H, H = s.heap := ⟨_, rfl⟩
  obtain ⟨locs, hL⟩ : ∃ locs : List Loc, locs = [] := ⟨_, rfl⟩
  rw [← hH] at hP
  have hS : va_S (ob_A b) s.heap H locs := by rw [hH, hL]; exact hS
  suffices hW : W p l e R s m args below meth c H locs 0 0 (MQ below (ob_Qv b D cA out) args s 0 0 (ob_A b)) (F0 m 0 ls []) by rw [hH, hL] at hW; exact hW
  refine lv_aload_n hx hb d_Mo_toServer_0 rfl (lv_at hl 0 rfl) ?_
  refine ob_getI (k := 49) Cx hP ck_11 rfl w_f_Mo_191 d_Mo_toServer_1 h (fun x1 h => ?_)
  refine lv_if_ne (tgt := 110) hx hb d_Mo_toServer_4 (by decide) (fun hq => ?_) (fun hq => ?_)
  · rw [if_pos hq] at h
    exact tB_Mo_toServer_110 Cx t H locs ls v0 hP hS (lv_sub hl [0] rfl) h
  · rw [if_neg (fun z => z hq)] at h
    refine lv_aload_n hx hb d_Mo_toServer_7 rfl (lv_at hl 0 rfl) ?_
    refine ob_getI (k := 50) Cx hP ck_11 rfl w_f_Mo_194 d_Mo_toServer_8 h (fun x8 h => ?_)
    refine lv_iconst (v := 1) hx hb d_Mo_toServer_11 (by decide) ?_
    refine lv_icmp_eq (tgt := 23) hx hb d_Mo_toServer_12 (by decide) (fun hq => ?_) (fun hq => ?_)
    · rw [if_pos hq] at h
      exact tB_Mo_toServer_23 Cx t H locs ls v0 hP hS (lv_sub hl [0] rfl) h
    · rw [if_neg hq] at h
      refine lv_aload_n hx hb d_Mo_toServer_15 rfl (lv_at hl 0 rfl) ?_
      refine ob_getI (k := 50) Cx hP ck_11 rfl w_f_Mo_194 d_Mo_toServer_16 h (fun x16 h => ?_)
      refine lv_iconst (v := 3) hx hb d_Mo_toServer_19 (by decide) ?_
      refine lv_icmp_ne (tgt := 110) hx hb d_Mo_toServer_20 (by decide) (fun hq => ?_) (fun hq => ?_)
      · rw [if_pos hq] at h
        exact tB_Mo_toServer_110 Cx t H locs ls v0 hP hS (lv_sub hl [0] rfl) h
      · rw [if_neg (fun z => z hq)] at h
        exact tB_Mo_toServer_23 Cx t H locs ls v0 hP hS (lv_sub hl [0] rfl) h
set_option maxHeartbeats 4000000 in
set_option maxRecDepth 100000 in
theorem tB_Mo_isSlot_9 {p : Program} {l : Launch} {e : Env} {R : Room} {s : State} {m : MethodId} {args : Array Value} {below : List Frame} {meth : Method} {c : Code} {b : Nat} {D : va_G} {cA : Nat → ClassId} {adK adV : Nat → Nat} {out : (Int32 × ob_S)} (Cx : ob_C p R s m args meth c cb_Mo_isSlot 1 "ObservedBlocksModel" (some .boolean) b D cA adK adV 0 0) : ∀ (t : ob_S) (H : Heap) (locs : List Loc) (ls : Array Slot), ob_H b D cA t H → va_S (ob_A b) s.heap H locs → lv_has ls 1 [] → B_Mo_isSlot_9 t = some out → W p l e R s m args below meth c H locs 0 0 (MQ below (ob_Qi b D cA out) args s 0 0 (ob_A b)) (F0 m 9 ls []) := by
  have hx := Cx.1.1
  have hb := Cx.1.2.1
  intro t H locs ls  hP hS hl h
  unfold B_Mo_isSlot_9 at h
  refine lv_iconst (v := 1) hx hb d_Mo_isSlot_9 (by decide) ?_
  refine lv_goto (tgt := 14) hx hb d_Mo_isSlot_10 (by decide) ?_
  exact ob_zret Cx hP hS d_Mo_isSlot_14 h
set_option maxHeartbeats 4000000 in
set_option maxRecDepth 100000 in
theorem c_Mo_isSlot {l : Launch} {b : Nat} {D : va_G} {cA : Nat → ClassId} {adK adV : Nat → Nat} (v0 : Int32) {t : ob_S} {out : (Int32 × ob_S)} (h : X_Mo_isSlot v0 t = some out) : Met l y_Mo_isSlot (Cond.code y_Mo_isSlot cb_Mo_isSlot 1 (some .boolean) :: ob_T) { frames := 0, cells := 0, slots := 0, locals := 0 } (ob_Pre b D cA adK adV [.int v0] t) (ob_Qi b D cA out) 0 0 (ob_A b) := by
  refine ob_met (by decide) (Nat.le_of_ble_eq_true rfl) ?_
  intro p e R s m args below meth c ls Cx hP hS hl
  have hl : lv_has ls 1 [(0, .int v0)] := hl
  have hx := Cx.1.1
  have hb := Cx.1.2.1
  unfold X_Mo_isSlot at h
  obtain ⟨H, hH⟩ : ∃ H, H = s.heap := ⟨_, rfl⟩
  obtain ⟨locs, hL⟩ : ∃ locs : List Loc, locs = [] := ⟨_, rfl⟩
  rw [← hH] at hP
  have hS : va_S (ob_A b) s.heap H locs := by rw [hH, hL]; exact hS
  suffices hW : W p l e R s m args below meth c H locs 0 0 (MQ below (ob_Qi b D cA out) args s 0 0 (ob_A b)) (F0 m 0 ls []) by rw [hH, hL] at hW; exact hW
  refine lv_iload_n hx hb d_Mo_isSlot_0 rfl (lv_at hl 0 rfl) ?_
  refine lv_if_eq (tgt := 9) hx hb d_Mo_isSlot_1 (by decide) (fun hq => ?_) (fun hq => ?_)
  · rw [if_pos hq] at h
    exact tB_Mo_isSlot_9 Cx t H locs ls hP hS (lv_sub hl [] rfl) h
  · rw [if_neg hq] at h
    refine lv_iload_n hx hb d_Mo_isSlot_4 rfl (lv_at hl 0 rfl) ?_
    refine lv_iconst (v := 1) hx hb d_Mo_isSlot_5 (by decide) ?_
    refine lv_icmp_ne (tgt := 13) hx hb d_Mo_isSlot_6 (by decide) (fun hq => ?_) (fun hq => ?_)
    · rw [if_pos hq] at h
      refine lv_iconst (v := 0) hx hb d_Mo_isSlot_13 (by decide) ?_
      exact ob_zret Cx hP hS d_Mo_isSlot_14 h
    · rw [if_neg (fun z => z hq)] at h
      exact tB_Mo_isSlot_9 Cx t H locs ls hP hS (lv_sub hl [] rfl) h
theorem g_Mo_use (v0 : Nat) (v1 : Int32) (v2 : Int32) (v3 : Int32) {t : ob_S} {out : (Int32 × ob_S)} (h : X_Mo_use v0 v1 v2 v3 t = some out) : v0 < ob_n t ∧ ob_k t v0 = 11 := by
  unfold X_Mo_use ob_this at h
  by_cases q : v0 < ob_n t ∧ ob_k t v0 = 11
  · exact q
  · rw [if_neg q] at h
    cases h
set_option maxHeartbeats 4000000 in
set_option maxRecDepth 100000 in
theorem c_Mo_use {l : Launch} {b : Nat} {D : va_G} {cA : Nat → ClassId} {adK adV : Nat → Nat} (v0 : Nat) (v1 : Int32) (v2 : Int32) (v3 : Int32) {t : ob_S} {out : (Int32 × ob_S)} (h : X_Mo_use v0 v1 v2 v3 t = some out) : Met l y_Mo_use (Cond.code y_Mo_use cb_Mo_use 4 (some .int) :: ob_T) { frames := 4, cells := 0, slots := 0, locals := 93 } (ob_Pre b D cA adK adV [.ref (b + v0), .int v1, .int v2, .int v3] t) (ob_Qi b D cA out) 0 0 (ob_A b) := by
  refine ob_met (by decide) (Nat.le_of_ble_eq_true rfl) ?_
  intro p e R s m args below meth c ls Cx hP hS hl
  have hl : lv_has ls 4 [(0, .ref (b + v0)), (1, .int v1), (2, .int v2), (3, .int v3)] := hl
  have hx := Cx.1.1
  have hb := Cx.1.2.1
  have hg := g_Mo_use v0 v1 v2 v3 h
  unfold X_Mo_use ob_this at h
  rw [if_pos hg] at h
  obtain ⟨H, hH⟩ : ∃ H, H = s.heap := ⟨_, rfl⟩
  obtain ⟨locs, hL⟩ : ∃ locs : List Loc, locs = [] := ⟨_, rfl⟩
  rw [← hH] at hP
  have hS : va_S (ob_A b) s.heap H locs := by rw [hH, hL]; exact hS
  suffices hW : W p l e R s m args below meth c H locs 0 0 (MQ below (ob_Qi b D cA out) args s 0 0 (ob_A b)) (F0 m 0 ls []) by rw [hH, hL] at hW; exact hW
  refine lv_aload_n hx hb d_Mo_use_0 rfl (lv_at hl 0 rfl) ?_
  refine ob_getR (k := 15) Cx hP ck_11 rfl w_f_Mo_51 d_Mo_use_1 h (fun n1 h => ?_)
  refine lv_iload_n hx hb d_Mo_use_4 rfl (lv_at hl 1 rfl) ?_
  refine lv_dup2_11 hx hb d_Mo_use_5 rfl rfl ?_
  refine ob_aldI Cx hP d_Mo_use_6 h (fun x6 h => ?_)
  refine lv_iconst (v := 1) hx hb d_Mo_use_7 (by decide) ?_
  refine lv_iadd hx hb d_Mo_use_8 ?_
  refine ob_astI Cx hP hS d_Mo_use_9 h (fun t9 H locs h hP hS => ?_)
  refine lv_aload_n hx hb d_Mo_use_10 rfl (lv_at hl 0 rfl) ?_
  refine ob_getR (k := 16) Cx hP ck_11 rfl w_f_Mo_54 d_Mo_use_11 h (fun n11 h => ?_)
  refine lv_iload_n hx hb d_Mo_use_14 rfl (lv_at hl 1 rfl) ?_
  refine lv_iconst (v := 2) hx hb d_Mo_use_15 (by decide) ?_
  refine lv_aload_n hx hb d_Mo_use_16 rfl (lv_at hl 0 rfl) ?_
  refine ob_getR (k := 15) Cx hP ck_11 rfl w_f_Mo_51 d_Mo_use_17 h (fun n17 h => ?_)
  refine lv_iload_n hx hb d_Mo_use_20 rfl (lv_at hl 1 rfl) ?_
  refine ob_aldI Cx hP d_Mo_use_21 h (fun x21 h => ?_)
  refine lv_imul hx hb d_Mo_use_22 ?_
  refine lv_iload_n hx hb d_Mo_use_23 rfl (lv_at hl 1 rfl) ?_
  refine lv_iadd hx hb d_Mo_use_24 ?_
  refine lv_sipush (v := 256) hx hb d_Mo_use_25 (by decide) ?_
  refine lv_irem hx hb d_Mo_use_28 (by decide) ?_
  refine ob_astI Cx hP hS d_Mo_use_29 h (fun t29 H locs h hP hS => ?_)
  refine lv_aload_n hx hb d_Mo_use_30 rfl (lv_at hl 0 rfl) ?_
  refine ob_getR (k := 17) Cx hP ck_11 rfl w_f_Mo_57 d_Mo_use_31 h (fun n31 h => ?_)
  refine lv_iload_n hx hb d_Mo_use_34 rfl (lv_at hl 1 rfl) ?_
  refine lv_iload_n hx hb d_Mo_use_35 rfl (lv_at hl 2 rfl) ?_
  refine ob_astI Cx hP hS d_Mo_use_36 h (fun t36 H locs h hP hS => ?_)
  refine lv_aload_n hx hb d_Mo_use_37 rfl (lv_at hl 0 rfl) ?_
  refine ob_getR (k := 18) Cx hP ck_11 rfl w_f_Mo_60 d_Mo_use_38 h (fun n38 h => ?_)
  refine lv_iload_n hx hb d_Mo_use_41 rfl (lv_at hl 1 rfl) ?_
  refine lv_iload_n hx hb d_Mo_use_42 rfl (lv_at hl 3 rfl) ?_
  refine ob_astI Cx hP hS d_Mo_use_43 h (fun t43 H locs h hP hS => ?_)
  refine lv_aload_n hx hb d_Mo_use_44 rfl (lv_at hl 0 rfl) ?_
  refine ob_getR (k := 19) Cx hP ck_11 rfl w_f_Mo_63 d_Mo_use_45 h (fun n45 h => ?_)
  refine lv_iload_n hx hb d_Mo_use_48 rfl (lv_at hl 1 rfl) ?_
  refine lv_iconst (v := 0) hx hb d_Mo_use_49 (by decide) ?_
  refine ob_astI Cx hP hS d_Mo_use_50 h (fun t50 H locs h hP hS => ?_)
  refine lv_aload_n hx hb d_Mo_use_51 rfl (lv_at hl 0 rfl) ?_
  refine ob_getR (k := 22) Cx hP ck_11 rfl w_f_Mo_72 d_Mo_use_52 h (fun n52 h => ?_)
  refine lv_iload_n hx hb d_Mo_use_55 rfl (lv_at hl 1 rfl) ?_
  refine lv_iconst (v := 0) hx hb d_Mo_use_56 (by decide) ?_
  refine ob_astZ Cx hP hS d_Mo_use_57 h (fun t57 H locs h hP hS => ?_)
  refine lv_aload_n hx hb d_Mo_use_58 rfl (lv_at hl 0 rfl) ?_
  refine ob_getR (k := 23) Cx hP ck_11 rfl w_f_Mo_75 d_Mo_use_59 h (fun n59 h => ?_)
  refine lv_iload_n hx hb d_Mo_use_62 rfl (lv_at hl 1 rfl) ?_
  refine lv_iconst (v := 0) hx hb d_Mo_use_63 (by decide) ?_
  refine ob_astI Cx hP hS d_Mo_use_64 h (fun t64 H locs h hP hS => ?_)
  refine lv_aload_n hx hb d_Mo_use_65 rfl (lv_at hl 0 rfl) ?_
  refine ob_getR (k := 24) Cx hP ck_11 rfl w_f_Mo_78 d_Mo_use_66 h (fun n66 h => ?_)
  refine lv_iload_n hx hb d_Mo_use_69 rfl (lv_at hl 1 rfl) ?_
  refine lv_iconst (v := 0) hx hb d_Mo_use_70 (by decide) ?_
  refine ob_astI Cx hP hS d_Mo_use_71 h (fun t71 H locs h hP hS => ?_)
  refine lv_aload_n hx hb d_Mo_use_72 rfl (lv_at hl 0 rfl) ?_
  refine lv_iload_n hx hb d_Mo_use_73 rfl (lv_at hl 1 rfl) ?_
  refine lv_iconst (v := 1) hx hb d_Mo_use_74 (by decide) ?_
  refine ob_cVv (nA := 2) (As := [.int v1, .int (1 : Int32)]) (rest := []) Cx hl.1 hP hS (fun o ho => c_Mo_ask v0 v1 (1 : Int32) ho) (fun o ho => g_Mo_ask v0 v1 (1 : Int32) ho) (by decide) (rfl : ob_cl[11]? = _) mv_Mo_ask w_m_Mo_229 rfl (by decide +kernel) ⟨rfl, rfl⟩ ⟨by decide, by decide⟩ (Nat.le_of_ble_eq_true rfl) rfl d_Mo_use_75 h (fun t75 H locs h hP hS => ?_)
  refine lv_aload_n hx hb d_Mo_use_78 rfl (lv_at hl 0 rfl) ?_
  refine ob_getR (k := 16) Cx hP ck_11 rfl w_f_Mo_54 d_Mo_use_79 h (fun n79 h => ?_)
  refine lv_iload_n hx hb d_Mo_use_82 rfl (lv_at hl 1 rfl) ?_
  refine ob_aldI Cx hP d_Mo_use_83 h (fun x83 h => ?_)
  exact ob_iret Cx hP hS d_Mo_use_84 h
set_option maxHeartbeats 4000000 in
set_option maxRecDepth 100000 in
theorem tB_Mo_get_25 {p : Program} {l : Launch} {e : Env} {R : Room} {s : State} {m : MethodId} {args : Array Value} {below : List Frame} {meth : Method} {c : Code} {b : Nat} {D : va_G} {cA : Nat → ClassId} {adK adV : Nat → Nat} {out : (Int32 × ob_S)} (Cx : ob_C p R s m args meth c cb_Mo_get 5 "ObservedBlocksModel" (some .int) b D cA adK adV 5 116) : ∀ (t : ob_S) (H : Heap) (locs : List Loc) (ls : Array Slot), ob_H b D cA t H → va_S (ob_A b) s.heap H locs → lv_has ls 5 [] → B_Mo_get_25 t = some out → W p l e R s m args below meth c H locs 0 0 (MQ below (ob_Qi b D cA out) args s 0 0 (ob_A b)) (F0 m 25 ls []) := by
  have hx := Cx.1.1
  have hb := Cx.1.2.1
  intro t H locs ls  hP hS hl h
  unfold B_Mo_get_25 at h
  refine lv_iconst (v := -1) hx hb d_Mo_get_25 (by decide) ?_
  exact ob_iret Cx hP hS d_Mo_get_26 h
theorem g_Mo_get (v0 : Nat) (v1 : Int32) (v2 : Int32) (v3 : Int32) (v4 : Int32) {t : ob_S} {out : (Int32 × ob_S)} (h : X_Mo_get v0 v1 v2 v3 v4 t = some out) : v0 < ob_n t ∧ ob_k t v0 = 11 := by
  unfold X_Mo_get ob_this at h
  by_cases q : v0 < ob_n t ∧ ob_k t v0 = 11
  · exact q
  · rw [if_neg q] at h
    cases h
set_option maxHeartbeats 4000000 in
set_option maxRecDepth 100000 in
theorem c_Mo_get {l : Launch} {b : Nat} {D : va_G} {cA : Nat → ClassId} {adK adV : Nat → Nat} (v0 : Nat) (v1 : Int32) (v2 : Int32) (v3 : Int32) (v4 : Int32) {t : ob_S} {out : (Int32 × ob_S)} (h : X_Mo_get v0 v1 v2 v3 v4 t = some out) : Met l y_Mo_get (Cond.code y_Mo_get cb_Mo_get 5 (some .int) :: ob_T) { frames := 5, cells := 0, slots := 0, locals := 116 } (ob_Pre b D cA adK adV [.ref (b + v0), .int v1, .int v2, .int v3, .int v4] t) (ob_Qi b D cA out) 0 0 (ob_A b) := by
  refine ob_met (by decide) (Nat.le_of_ble_eq_true rfl) ?_
  intro p e R s m args below meth c ls Cx hP hS hl
  have hl : lv_has ls 5 [(0, .ref (b + v0)), (1, .int v1), (2, .int v2), (3, .int v3), (4, .int v4)] := hl
  have hx := Cx.1.1
  have hb := Cx.1.2.1
  have hg := g_Mo_get v0 v1 v2 v3 v4 h
  unfold X_Mo_get ob_this at h
  rw [if_pos hg] at h
  obtain ⟨H, hH⟩ : ∃ H, H = s.heap := ⟨_, rfl⟩
  obtain ⟨locs, hL⟩ : ∃ locs : List Loc, locs = [] := ⟨_, rfl⟩
  rw [← hH] at hP
  have hS : va_S (ob_A b) s.heap H locs := by rw [hH, hL]; exact hS
  suffices hW : W p l e R s m args below meth c H locs 0 0 (MQ below (ob_Qi b D cA out) args s 0 0 (ob_A b)) (F0 m 0 ls []) by rw [hH, hL] at hW; exact hW
  refine lv_iload_n hx hb d_Mo_get_0 rfl (lv_at hl 1 rfl) ?_
  refine ob_cSi (nA := 1) (As := [.int v1]) (rest := []) Cx hl.1 hP hS (fun o ho => c_Mo_isSlot v1 ho) ms_Mo_isSlot w_m_Mo_297 rfl (by decide +kernel) ⟨rfl, rfl⟩ ⟨by decide, by decide⟩ (Nat.le_of_ble_eq_true rfl) rfl d_Mo_get_1 h (fun x1 t1 H locs h hP hS => ?_)
  refine lv_if_eq (tgt := 25) hx hb d_Mo_get_4 (by decide) (fun hq => ?_) (fun hq => ?_)
  · rw [if_pos hq] at h
    exact tB_Mo_get_25 Cx t1 H locs ls hP hS (lv_sub hl [] rfl) h
  · rw [if_neg hq] at h
    refine lv_iload_n hx hb d_Mo_get_7 rfl (lv_at hl 2 rfl) ?_
    refine lv_if_lt (tgt := 25) hx hb d_Mo_get_8 (by decide) (fun hq => ?_) (fun hq => ?_)
    · rw [if_pos hq] at h
      exact tB_Mo_get_25 Cx t1 H locs ls hP hS (lv_sub hl [] rfl) h
    · rw [if_neg hq] at h
      refine lv_iload_n hx hb d_Mo_get_11 rfl (lv_at hl 2 rfl) ?_
      refine lv_iconst (v := 4) hx hb d_Mo_get_12 (by decide) ?_
      refine lv_icmp_gt (tgt := 25) hx hb d_Mo_get_13 (by decide) (fun hq => ?_) (fun hq => ?_)
      · rw [if_pos hq] at h
        exact tB_Mo_get_25 Cx t1 H locs ls hP hS (lv_sub hl [] rfl) h
      · rw [if_neg hq] at h
        refine lv_iload_n hx hb d_Mo_get_16 rfl (lv_at hl 3 rfl) ?_
        refine lv_if_lt (tgt := 25) hx hb d_Mo_get_17 (by decide) (fun hq => ?_) (fun hq => ?_)
        · rw [if_pos hq] at h
          exact tB_Mo_get_25 Cx t1 H locs ls hP hS (lv_sub hl [] rfl) h
        · rw [if_neg hq] at h
          refine lv_iload_n hx hb d_Mo_get_20 rfl (lv_at hl 3 rfl) ?_
          refine lv_iconst (v := 1) hx hb d_Mo_get_21 (by decide) ?_
          refine lv_icmp_le (tgt := 27) hx hb d_Mo_get_22 (by decide) (fun hq => ?_) (fun hq => ?_)
          · rw [if_pos hq] at h
            refine lv_aload_n hx hb d_Mo_get_27 rfl (lv_at hl 0 rfl) ?_
            refine ob_getR (k := 14) Cx hP ck_11 rfl w_f_Mo_48 d_Mo_get_28 h (fun n28 h => ?_)
            refine lv_iload_n hx hb d_Mo_get_31 rfl (lv_at hl 1 rfl) ?_
            refine ob_aldI Cx hP d_Mo_get_32 h (fun x32 h => ?_)
            refine lv_if_eq (tgt := 39) hx hb d_Mo_get_33 (by decide) (fun hq => ?_) (fun hq => ?_)
            · rw [if_pos hq] at h
              refine lv_aload_n hx hb d_Mo_get_39 rfl (lv_at hl 0 rfl) ?_
              refine ob_getR (k := 20) Cx hP ck_11 rfl w_f_Mo_66 d_Mo_get_40 h (fun n40 h => ?_)
              refine lv_iload_n hx hb d_Mo_get_43 rfl (lv_at hl 1 rfl) ?_
              refine lv_iconst (v := 0) hx hb d_Mo_get_44 (by decide) ?_
              refine ob_astZ Cx hP hS d_Mo_get_45 h (fun t45 H locs h hP hS => ?_)
              refine lv_aload_n hx hb d_Mo_get_46 rfl (lv_at hl 0 rfl) ?_
              refine ob_getR (k := 21) Cx hP ck_11 rfl w_f_Mo_69 d_Mo_get_47 h (fun n47 h => ?_)
              refine lv_iload_n hx hb d_Mo_get_50 rfl (lv_at hl 1 rfl) ?_
              refine lv_iload hx hb d_Mo_get_51 (lv_at hl 4 rfl) ?_
              refine ob_astZ Cx hP hS d_Mo_get_53 h (fun t53 H locs h hP hS => ?_)
              refine lv_aload_n hx hb d_Mo_get_54 rfl (lv_at hl 0 rfl) ?_
              refine ob_getR (k := 27) Cx hP ck_11 rfl w_f_Mo_87 d_Mo_get_55 h (fun n55 h => ?_)
              refine lv_iload_n hx hb d_Mo_get_58 rfl (lv_at hl 1 rfl) ?_
              refine lv_iconst (v := 0) hx hb d_Mo_get_59 (by decide) ?_
              refine ob_astI Cx hP hS d_Mo_get_60 h (fun t60 H locs h hP hS => ?_)
              refine lv_aload_n hx hb d_Mo_get_61 rfl (lv_at hl 0 rfl) ?_
              refine lv_iload_n hx hb d_Mo_get_62 rfl (lv_at hl 1 rfl) ?_
              refine lv_iload_n hx hb d_Mo_get_63 rfl (lv_at hl 2 rfl) ?_
              refine lv_iload_n hx hb d_Mo_get_64 rfl (lv_at hl 3 rfl) ?_
              refine ob_cVi (nA := 3) (As := [.int v1, .int v2, .int v3]) (rest := []) Cx hl.1 hP hS (fun o ho => c_Mo_use v0 v1 v2 v3 ho) (fun o ho => g_Mo_use v0 v1 v2 v3 ho) (by decide) (rfl : ob_cl[11]? = _) mv_Mo_use w_m_Mo_301 rfl (by decide +kernel) ⟨rfl, rfl⟩ ⟨by decide, by decide⟩ (Nat.le_of_ble_eq_true rfl) rfl d_Mo_get_65 h (fun x65 t65 H locs h hP hS => ?_)
              exact ob_iret Cx hP hS d_Mo_get_68 h
            · rw [if_neg hq] at h
              refine lv_bipush (v := -2) hx hb d_Mo_get_36 (by decide) ?_
              exact ob_iret Cx hP hS d_Mo_get_38 h
          · rw [if_neg hq] at h
            exact tB_Mo_get_25 Cx t1 H locs ls hP hS (lv_sub hl [] rfl) h
set_option maxHeartbeats 4000000 in
set_option maxRecDepth 100000 in
theorem tB_Mo_put_37 {p : Program} {l : Launch} {e : Env} {R : Room} {s : State} {m : MethodId} {args : Array Value} {below : List Frame} {meth : Method} {c : Code} {b : Nat} {D : va_G} {cA : Nat → ClassId} {adK adV : Nat → Nat} {out : (Int32 × ob_S)} (Cx : ob_C p R s m args meth c cb_Mo_put 7 "ObservedBlocksModel" (some .int) b D cA adK adV 5 116) : ∀ (t : ob_S) (H : Heap) (locs : List Loc) (ls : Array Slot), ob_H b D cA t H → va_S (ob_A b) s.heap H locs → lv_has ls 7 [] → B_Mo_put_37 t = some out → W p l e R s m args below meth c H locs 0 0 (MQ below (ob_Qi b D cA out) args s 0 0 (ob_A b)) (F0 m 37 ls []) := by
  have hx := Cx.1.1
  have hb := Cx.1.2.1
  intro t H locs ls  hP hS hl h
  unfold B_Mo_put_37 at h
  refine lv_iconst (v := -1) hx hb d_Mo_put_37 (by decide) ?_
  exact ob_iret Cx hP hS d_Mo_put_38 h
set_option maxHeartbeats 4000000 in
set_option maxRecDepth 100000 in
theorem tB_Mo_put_76 {p : Program} {l : Launch} {e : Env} {R : Room} {s : State} {m : MethodId} {args : Array Value} {below : List Frame} {meth : Method} {c : Code} {b : Nat} {D : va_G} {cA : Nat → ClassId} {adK adV : Nat → Nat} {out : (Int32 × ob_S)} (Cx : ob_C p R s m args meth c cb_Mo_put 7 "ObservedBlocksModel" (some .int) b D cA adK adV 5 116) : ∀ (fu : Nat), ∀ (t : ob_S) (H : Heap) (locs : List Loc) (ls : Array Slot) (v0 : Nat) (v1 : Int32) (v2 : Int32) (v3 : Int32) (v4 : Int32) (v5 : Int32) (v6 : Int32), ob_H b D cA t H → va_S (ob_A b) s.heap H locs → lv_has ls 7 [(0, .ref (b + v0)), (1, .int v1), (2, .int v2), (3, .int v3), (4, .int v4), (5, .int v5), (6, .int v6)] → B_Mo_put_76 fu v0 v1 v2 v3 v4 v5 v6 t = some out → W p l e R s m args below meth c H locs 0 0 (MQ below (ob_Qi b D cA out) args s 0 0 (ob_A b)) (F0 m 76 ls []) := by
  have hx := Cx.1.1
  have hb := Cx.1.2.1
  intro fu
  induction fu with
  | zero =>
    intro t H locs ls v0 v1 v2 v3 v4 v5 v6 hP hS hl h
    cases h
  | succ fu ih =>
    intro t H locs ls v0 v1 v2 v3 v4 v5 v6 hP hS hl h
    rw [B_Mo_put_76] at h
    refine lv_iload hx hb d_Mo_put_76 (lv_at hl 6 rfl) ?_
    refine lv_iload hx hb d_Mo_put_78 (lv_at hl 4 rfl) ?_
    refine lv_icmp_ge (tgt := 112) hx hb d_Mo_put_80 (by decide) (fun hq => ?_) (fun hq => ?_)
    · rw [if_pos hq] at h
      refine lv_aload_n hx hb d_Mo_put_112 rfl (lv_at hl 0 rfl) ?_
      refine lv_iload_n hx hb d_Mo_put_113 rfl (lv_at hl 1 rfl) ?_
      refine lv_iload_n hx hb d_Mo_put_114 rfl (lv_at hl 2 rfl) ?_
      refine lv_iload_n hx hb d_Mo_put_115 rfl (lv_at hl 3 rfl) ?_
      refine ob_cVi (nA := 3) (As := [.int v1, .int v2, .int v3]) (rest := []) Cx hl.1 hP hS (fun o ho => c_Mo_use v0 v1 v2 v3 ho) (fun o ho => g_Mo_use v0 v1 v2 v3 ho) (by decide) (rfl : ob_cl[11]? = _) mv_Mo_use w_m_Mo_301 rfl (by decide +kernel) ⟨rfl, rfl⟩ ⟨by decide, by decide⟩ (Nat.le_of_ble_eq_true rfl) rfl d_Mo_put_116 h (fun x116 t116 H locs h hP hS => ?_)
      exact ob_iret Cx hP hS d_Mo_put_119 h
    · rw [if_neg hq] at h
      refine lv_aload_n hx hb d_Mo_put_83 rfl (lv_at hl 0 rfl) ?_
      refine ob_getR (k := 26) Cx hP ck_11 rfl w_f_Mo_84 d_Mo_put_84 h (fun n84 h => ?_)
      refine lv_bipush (v := 80) hx hb d_Mo_put_87 (by decide) ?_
      refine lv_iload_n hx hb d_Mo_put_89 rfl (lv_at hl 1 rfl) ?_
      refine lv_imul hx hb d_Mo_put_90 ?_
      refine lv_iload hx hb d_Mo_put_91 (lv_at hl 6 rfl) ?_
      refine lv_iadd hx hb d_Mo_put_93 ?_
      refine lv_iload hx hb d_Mo_put_94 (lv_at hl 5 rfl) ?_
      refine lv_iconst (v := 5) hx hb d_Mo_put_96 (by decide) ?_
      refine lv_iload hx hb d_Mo_put_97 (lv_at hl 6 rfl) ?_
      refine lv_imul hx hb d_Mo_put_99 ?_
      refine lv_iadd hx hb d_Mo_put_100 ?_
      refine lv_sipush (v := 255) hx hb d_Mo_put_101 (by decide) ?_
      refine lv_iand hx hb d_Mo_put_104 ?_
      refine ob_astI Cx hP hS d_Mo_put_105 h (fun t105 H locs h hP hS => ?_)
      refine lv_iinc (v := (v6 + (1 : Int32))) (lv' := [(6, .int (v6 + (1 : Int32))), (0, .ref (b + v0)), (1, .int v1), (2, .int v2), (3, .int v3), (4, .int v4), (5, .int v5)]) hx hb d_Mo_put_106 hl (k := 6) rfl rfl (by decide) rfl (fun ls hl => ?_)
      refine lv_goto (tgt := 76) hx hb d_Mo_put_109 (by decide) ?_
      exact ih t105 H locs ls v0 v1 v2 v3 v4 v5 (v6 + (1 : Int32)) hP hS (lv_sub hl [1, 2, 3, 4, 5, 6, 0] rfl) h
theorem g_Mo_put (v0 : Nat) (v1 : Int32) (v2 : Int32) (v3 : Int32) (v4 : Int32) (v5 : Int32) {t : ob_S} {out : (Int32 × ob_S)} (h : X_Mo_put v0 v1 v2 v3 v4 v5 t = some out) : v0 < ob_n t ∧ ob_k t v0 = 11 := by
  unfold X_Mo_put ob_this at h
  by_cases q : v0 < ob_n t ∧ ob_k t v0 = 11
  · exact q
  · rw [if_neg q] at h
    cases h
set_option maxHeartbeats 4000000 in
set_option maxRecDepth 100000 in
theorem c_Mo_put {l : Launch} {b : Nat} {D : va_G} {cA : Nat → ClassId} {adK adV : Nat → Nat} (v0 : Nat) (v1 : Int32) (v2 : Int32) (v3 : Int32) (v4 : Int32) (v5 : Int32) {t : ob_S} {out : (Int32 × ob_S)} (h : X_Mo_put v0 v1 v2 v3 v4 v5 t = some out) : Met l y_Mo_put (Cond.code y_Mo_put cb_Mo_put 7 (some .int) :: ob_T) { frames := 5, cells := 0, slots := 0, locals := 116 } (ob_Pre b D cA adK adV [.ref (b + v0), .int v1, .int v2, .int v3, .int v4, .int v5] t) (ob_Qi b D cA out) 0 0 (ob_A b) := by
  refine ob_met (by decide) (Nat.le_of_ble_eq_true rfl) ?_
  intro p e R s m args below meth c ls Cx hP hS hl
  have hl : lv_has ls 7 [(0, .ref (b + v0)), (1, .int v1), (2, .int v2), (3, .int v3), (4, .int v4), (5, .int v5)] := hl
  have hx := Cx.1.1
  have hb := Cx.1.2.1
  have hg := g_Mo_put v0 v1 v2 v3 v4 v5 h
  unfold X_Mo_put ob_this at h
  rw [if_pos hg] at h
  obtain ⟨H, hH⟩ : ∃ H, H = s.heap := ⟨_, rfl⟩
  obtain ⟨locs, hL⟩ : ∃ locs : List Loc, locs = [] := ⟨_, rfl⟩
  rw [← hH] at hP
  have hS : va_S (ob_A b) s.heap H locs := by rw [hH, hL]; exact hS
  suffices hW : W p l e R s m args below meth c H locs 0 0 (MQ below (ob_Qi b D cA out) args s 0 0 (ob_A b)) (F0 m 0 ls []) by rw [hH, hL] at hW; exact hW
  refine lv_iload_n hx hb d_Mo_put_0 rfl (lv_at hl 1 rfl) ?_
  refine ob_cSi (nA := 1) (As := [.int v1]) (rest := []) Cx hl.1 hP hS (fun o ho => c_Mo_isSlot v1 ho) ms_Mo_isSlot w_m_Mo_297 rfl (by decide +kernel) ⟨rfl, rfl⟩ ⟨by decide, by decide⟩ (Nat.le_of_ble_eq_true rfl) rfl d_Mo_put_1 h (fun x1 t1 H locs h hP hS => ?_)
  refine lv_if_eq (tgt := 37) hx hb d_Mo_put_4 (by decide) (fun hq => ?_) (fun hq => ?_)
  · rw [if_pos hq] at h
    exact tB_Mo_put_37 Cx t1 H locs ls hP hS (lv_sub hl [] rfl) h
  · rw [if_neg hq] at h
    refine lv_iload_n hx hb d_Mo_put_7 rfl (lv_at hl 2 rfl) ?_
    refine lv_if_lt (tgt := 37) hx hb d_Mo_put_8 (by decide) (fun hq => ?_) (fun hq => ?_)
    · rw [if_pos hq] at h
      exact tB_Mo_put_37 Cx t1 H locs ls hP hS (lv_sub hl [] rfl) h
    · rw [if_neg hq] at h
      refine lv_iload_n hx hb d_Mo_put_11 rfl (lv_at hl 2 rfl) ?_
      refine lv_iconst (v := 4) hx hb d_Mo_put_12 (by decide) ?_
      refine lv_icmp_gt (tgt := 37) hx hb d_Mo_put_13 (by decide) (fun hq => ?_) (fun hq => ?_)
      · rw [if_pos hq] at h
        exact tB_Mo_put_37 Cx t1 H locs ls hP hS (lv_sub hl [] rfl) h
      · rw [if_neg hq] at h
        refine lv_iload_n hx hb d_Mo_put_16 rfl (lv_at hl 3 rfl) ?_
        refine lv_if_lt (tgt := 37) hx hb d_Mo_put_17 (by decide) (fun hq => ?_) (fun hq => ?_)
        · rw [if_pos hq] at h
          exact tB_Mo_put_37 Cx t1 H locs ls hP hS (lv_sub hl [] rfl) h
        · rw [if_neg hq] at h
          refine lv_iload_n hx hb d_Mo_put_20 rfl (lv_at hl 3 rfl) ?_
          refine lv_iconst (v := 1) hx hb d_Mo_put_21 (by decide) ?_
          refine lv_icmp_gt (tgt := 37) hx hb d_Mo_put_22 (by decide) (fun hq => ?_) (fun hq => ?_)
          · rw [if_pos hq] at h
            exact tB_Mo_put_37 Cx t1 H locs ls hP hS (lv_sub hl [] rfl) h
          · rw [if_neg hq] at h
            refine lv_iload hx hb d_Mo_put_25 (lv_at hl 4 rfl) ?_
            refine lv_if_lt (tgt := 37) hx hb d_Mo_put_27 (by decide) (fun hq => ?_) (fun hq => ?_)
            · rw [if_pos hq] at h
              exact tB_Mo_put_37 Cx t1 H locs ls hP hS (lv_sub hl [] rfl) h
            · rw [if_neg hq] at h
              refine lv_iload hx hb d_Mo_put_30 (lv_at hl 4 rfl) ?_
              refine lv_bipush (v := 80) hx hb d_Mo_put_32 (by decide) ?_
              refine lv_icmp_le (tgt := 39) hx hb d_Mo_put_34 (by decide) (fun hq => ?_) (fun hq => ?_)
              · rw [if_pos hq] at h
                refine lv_aload_n hx hb d_Mo_put_39 rfl (lv_at hl 0 rfl) ?_
                refine ob_getR (k := 14) Cx hP ck_11 rfl w_f_Mo_48 d_Mo_put_40 h (fun n40 h => ?_)
                refine lv_iload_n hx hb d_Mo_put_43 rfl (lv_at hl 1 rfl) ?_
                refine ob_aldI Cx hP d_Mo_put_44 h (fun x44 h => ?_)
                refine lv_if_eq (tgt := 51) hx hb d_Mo_put_45 (by decide) (fun hq => ?_) (fun hq => ?_)
                · rw [if_pos hq] at h
                  refine lv_aload_n hx hb d_Mo_put_51 rfl (lv_at hl 0 rfl) ?_
                  refine ob_getR (k := 20) Cx hP ck_11 rfl w_f_Mo_66 d_Mo_put_52 h (fun n52 h => ?_)
                  refine lv_iload_n hx hb d_Mo_put_55 rfl (lv_at hl 1 rfl) ?_
                  refine lv_iconst (v := 1) hx hb d_Mo_put_56 (by decide) ?_
                  refine ob_astZ Cx hP hS d_Mo_put_57 h (fun t57 H locs h hP hS => ?_)
                  refine lv_aload_n hx hb d_Mo_put_58 rfl (lv_at hl 0 rfl) ?_
                  refine ob_getR (k := 21) Cx hP ck_11 rfl w_f_Mo_69 d_Mo_put_59 h (fun n59 h => ?_)
                  refine lv_iload_n hx hb d_Mo_put_62 rfl (lv_at hl 1 rfl) ?_
                  refine lv_iconst (v := 0) hx hb d_Mo_put_63 (by decide) ?_
                  refine ob_astZ Cx hP hS d_Mo_put_64 h (fun t64 H locs h hP hS => ?_)
                  refine lv_aload_n hx hb d_Mo_put_65 rfl (lv_at hl 0 rfl) ?_
                  refine ob_getR (k := 27) Cx hP ck_11 rfl w_f_Mo_87 d_Mo_put_66 h (fun n66 h => ?_)
                  refine lv_iload_n hx hb d_Mo_put_69 rfl (lv_at hl 1 rfl) ?_
                  refine lv_iload hx hb d_Mo_put_70 (lv_at hl 4 rfl) ?_
                  refine ob_astI Cx hP hS d_Mo_put_72 h (fun t72 H locs h hP hS => ?_)
                  refine lv_iconst (v := 0) hx hb d_Mo_put_73 (by decide) ?_
                  refine lv_istore (lv' := [(6, .int (0 : Int32)), (0, .ref (b + v0)), (1, .int v1), (2, .int v2), (3, .int v3), (4, .int v4), (5, .int v5)]) hx hb d_Mo_put_74 hl (by decide) rfl (fun ls hl => ?_)
                  exact tB_Mo_put_76 Cx ob_fu t72 H locs ls v0 v1 v2 v3 v4 v5 (0 : Int32) hP hS (lv_sub hl [1, 2, 3, 4, 5, 6, 0] rfl) h
                · rw [if_neg hq] at h
                  refine lv_bipush (v := -2) hx hb d_Mo_put_48 (by decide) ?_
                  exact ob_iret Cx hP hS d_Mo_put_50 h
              · rw [if_neg hq] at h
                exact tB_Mo_put_37 Cx t1 H locs ls hP hS (lv_sub hl [] rfl) h

set_option maxHeartbeats 4000000 in
set_option maxRecDepth 100000 in
theorem tB_Mo_dropWatcher_182 {p : Program} {l : Launch} {e : Env} {R : Room} {s : State} {m : MethodId} {args : Array Value} {below : List Frame} {meth : Method} {c : Code} {b : Nat} {D : va_G} {cA : Nat → ClassId} {adK adV : Nat → Nat} {out : ob_S} (Cx : ob_C p R s m args meth c cb_Mo_dropWatcher 3 "ObservedBlocksModel" none b D cA adK adV 0 0) : ∀ (t : ob_S) (H : Heap) (locs : List Loc) (ls : Array Slot) (v0 : Nat), ob_H b D cA t H → va_S (ob_A b) s.heap H locs → lv_has ls 3 [(0, .ref (b + v0))] → B_Mo_dropWatcher_182 v0 t = some out → W p l e R s m args below meth c H locs 0 0 (MQ below (ob_Qv b D cA out) args s 0 0 (ob_A b)) (F0 m 182 ls []) := by
  have hx := Cx.1.1
  have hb := Cx.1.2.1
  intro t H locs ls v0 hP hS hl h
  unfold B_Mo_dropWatcher_182 at h
  refine lv_aload_n hx hb d_Mo_dropWatcher_182 rfl (lv_at hl 0 rfl) ?_
  refine lv_dup hx hb d_Mo_dropWatcher_183 rfl ?_
  refine ob_getI (k := 32) Cx hP ck_11 rfl w_f_Mo_242 d_Mo_dropWatcher_184 h (fun x184 h => ?_)
  refine lv_iconst (v := 1) hx hb d_Mo_dropWatcher_187 (by decide) ?_
  refine lv_isub hx hb d_Mo_dropWatcher_188 ?_
  refine ob_putI (k := 32) Cx hP hS ck_11 rfl rfl rfl w_f_Mo_242 d_Mo_dropWatcher_189 h (fun t189 H locs h hP hS => ?_)
  exact ob_vret Cx hP hS d_Mo_dropWatcher_192 h
set_option maxHeartbeats 4000000 in
set_option maxRecDepth 100000 in
theorem tB_Mo_dropWatcher_143 {p : Program} {l : Launch} {e : Env} {R : Room} {s : State} {m : MethodId} {args : Array Value} {below : List Frame} {meth : Method} {c : Code} {b : Nat} {D : va_G} {cA : Nat → ClassId} {adK adV : Nat → Nat} {out : ob_S} (Cx : ob_C p R s m args meth c cb_Mo_dropWatcher 3 "ObservedBlocksModel" none b D cA adK adV 0 0) : ∀ (fu : Nat), ∀ (t : ob_S) (H : Heap) (locs : List Loc) (ls : Array Slot) (v0 : Nat) (v2 : Int32), ob_H b D cA t H → va_S (ob_A b) s.heap H locs → lv_has ls 3 [(0, .ref (b + v0)), (2, .int v2)] → B_Mo_dropWatcher_143 fu v0 v2 t = some out → W p l e R s m args below meth c H locs 0 0 (MQ below (ob_Qv b D cA out) args s 0 0 (ob_A b)) (F0 m 143 ls []) := by
  have hx := Cx.1.1
  have hb := Cx.1.2.1
  intro fu
  induction fu with
  | zero =>
    intro t H locs ls v0 v2 hP hS hl h
    cases h
  | succ fu ih =>
    intro t H locs ls v0 v2 hP hS hl h
    rw [B_Mo_dropWatcher_143] at h
    refine lv_iload_n hx hb d_Mo_dropWatcher_143 rfl (lv_at hl 1 rfl) ?_
    refine lv_bipush (v := 64) hx hb d_Mo_dropWatcher_144 (by decide) ?_
    refine lv_icmp_ge (tgt := 175) hx hb d_Mo_dropWatcher_146 (by decide) (fun hq => ?_) (fun hq => ?_)
    · rw [if_pos hq] at h
      refine lv_aload_n hx hb d_Mo_dropWatcher_175 rfl (lv_at hl 0 rfl) ?_
      refine ob_getR (k := 7) Cx hP ck_11 rfl w_f_Mo_26 d_Mo_dropWatcher_176 h (fun n176 h => ?_)
      refine lv_iconst (v := 3) hx hb d_Mo_dropWatcher_179 (by decide) ?_
      refine lv_iconst (v := 0) hx hb d_Mo_dropWatcher_180 (by decide) ?_
      refine ob_astZ Cx hP hS d_Mo_dropWatcher_181 h (fun t181 H locs h hP hS => ?_)
      exact tB_Mo_dropWatcher_182 Cx t181 H locs ls v0 hP hS (lv_sub hl [0] rfl) h
    · rw [if_neg hq] at h
      refine lv_aload_n hx hb d_Mo_dropWatcher_149 rfl (lv_at hl 0 rfl) ?_
      refine ob_getR (k := 12) Cx hP ck_11 rfl w_f_Mo_42 d_Mo_dropWatcher_150 h (fun n150 h => ?_)
      refine lv_sipush (v := 128) hx hb d_Mo_dropWatcher_153 (by decide) ?_
      refine lv_iload_n hx hb d_Mo_dropWatcher_156 rfl (lv_at hl 1 rfl) ?_
      refine lv_iadd hx hb d_Mo_dropWatcher_157 ?_
      refine lv_aload_n hx hb d_Mo_dropWatcher_158 rfl (lv_at hl 0 rfl) ?_
      refine ob_getR (k := 12) Cx hP ck_11 rfl w_f_Mo_42 d_Mo_dropWatcher_159 h (fun n159 h => ?_)
      refine lv_sipush (v := 192) hx hb d_Mo_dropWatcher_162 (by decide) ?_
      refine lv_iload_n hx hb d_Mo_dropWatcher_165 rfl (lv_at hl 1 rfl) ?_
      refine lv_iadd hx hb d_Mo_dropWatcher_166 ?_
      refine ob_aldI Cx hP d_Mo_dropWatcher_167 h (fun x167 h => ?_)
      refine ob_astI Cx hP hS d_Mo_dropWatcher_168 h (fun t168 H locs h hP hS => ?_)
      refine lv_iinc (v := (v2 + (1 : Int32))) (lv' := [(2, .int (v2 + (1 : Int32))), (0, .ref (b + v0))]) hx hb d_Mo_dropWatcher_169 hl (k := 1) rfl rfl (by decide) rfl (fun ls hl => ?_)
      refine lv_goto (tgt := 143) hx hb d_Mo_dropWatcher_172 (by decide) ?_
      exact ih t168 H locs ls v0 (v2 + (1 : Int32)) hP hS (lv_sub hl [1, 0] rfl) h
theorem g_Mo_dropWatcher (v0 : Nat) (v1 : Int32) {t : ob_S} {out : ob_S} (h : X_Mo_dropWatcher v0 v1 t = some out) : v0 < ob_n t ∧ ob_k t v0 = 11 := by
  unfold X_Mo_dropWatcher ob_this at h
  by_cases q : v0 < ob_n t ∧ ob_k t v0 = 11
  · exact q
  · rw [if_neg q] at h
    cases h
set_option maxHeartbeats 4000000 in
set_option maxRecDepth 100000 in
theorem c_Mo_dropWatcher {l : Launch} {b : Nat} {D : va_G} {cA : Nat → ClassId} {adK adV : Nat → Nat} (v0 : Nat) (v1 : Int32) {t : ob_S} {out : ob_S} (h : X_Mo_dropWatcher v0 v1 t = some out) : Met l y_Mo_dropWatcher (Cond.code y_Mo_dropWatcher cb_Mo_dropWatcher 3 none :: ob_T) { frames := 0, cells := 0, slots := 0, locals := 0 } (ob_Pre b D cA adK adV [.ref (b + v0), .int v1] t) (ob_Qv b D cA out) 0 0 (ob_A b) := by
  refine ob_met (by decide) (Nat.le_of_ble_eq_true rfl) ?_
  intro p e R s m args below meth c ls Cx hP hS hl
  have hl : lv_has ls 3 [(0, .ref (b + v0)), (1, .int v1)] := hl
  have hx := Cx.1.1
  have hb := Cx.1.2.1
  have hg := g_Mo_dropWatcher v0 v1 h
  unfold X_Mo_dropWatcher ob_this at h
  rw [if_pos hg] at h
  obtain ⟨H, hH⟩ : ∃ H, H = s.heap := ⟨_, rfl⟩
  obtain ⟨locs, hL⟩ : ∃ locs : List Loc, locs = [] := ⟨_, rfl⟩
  rw [← hH] at hP
  have hS : va_S (ob_A b) s.heap H locs := by rw [hH, hL]; exact hS
  suffices hW : W p l e R s m args below meth c H locs 0 0 (MQ below (ob_Qv b D cA out) args s 0 0 (ob_A b)) (F0 m 0 ls []) by rw [hH, hL] at hW; exact hW
  refine lv_aload_n hx hb d_Mo_dropWatcher_0 rfl (lv_at hl 0 rfl) ?_
  refine ob_getR (k := 7) Cx hP ck_11 rfl w_f_Mo_26 d_Mo_dropWatcher_1 h (fun n1 h => ?_)
  refine lv_iconst (v := 2) hx hb d_Mo_dropWatcher_4 (by decide) ?_
  refine lv_iload_n hx hb d_Mo_dropWatcher_5 rfl (lv_at hl 1 rfl) ?_
  refine lv_iadd hx hb d_Mo_dropWatcher_6 ?_
  refine lv_iconst (v := 0) hx hb d_Mo_dropWatcher_7 (by decide) ?_
  refine ob_astZ Cx hP hS d_Mo_dropWatcher_8 h (fun t8 H locs h hP hS => ?_)
  refine lv_iload_n hx hb d_Mo_dropWatcher_9 rfl (lv_at hl 1 rfl) ?_
  refine lv_if_ne (tgt := 182) hx hb d_Mo_dropWatcher_10 (by decide) (fun hq => ?_) (fun hq => ?_)
  · rw [if_pos hq] at h
    exact tB_Mo_dropWatcher_182 Cx t8 H locs ls v0 hP hS (lv_sub hl [0] rfl) h
  · rw [if_neg (fun z => z hq)] at h
    refine lv_aload_n hx hb d_Mo_dropWatcher_13 rfl (lv_at hl 0 rfl) ?_
    refine ob_getI (k := 32) Cx hP ck_11 rfl w_f_Mo_242 d_Mo_dropWatcher_14 h (fun x14 h => ?_)
    refine lv_iconst (v := 2) hx hb d_Mo_dropWatcher_17 (by decide) ?_
    refine lv_icmp_ne (tgt := 182) hx hb d_Mo_dropWatcher_18 (by decide) (fun hq => ?_) (fun hq => ?_)
    · rw [if_pos hq] at h
      exact tB_Mo_dropWatcher_182 Cx t8 H locs ls v0 hP hS (lv_sub hl [0] rfl) h
    · rw [if_neg (fun z => z hq)] at h
      refine lv_aload_n hx hb d_Mo_dropWatcher_21 rfl (lv_at hl 0 rfl) ?_
      refine ob_getR (k := 33) Cx hP ck_11 rfl w_f_Mo_102 d_Mo_dropWatcher_22 h (fun n22 h => ?_)
      refine lv_iconst (v := 0) hx hb d_Mo_dropWatcher_25 (by decide) ?_
      refine lv_aload_n hx hb d_Mo_dropWatcher_26 rfl (lv_at hl 0 rfl) ?_
      refine ob_getR (k := 33) Cx hP ck_11 rfl w_f_Mo_102 d_Mo_dropWatcher_27 h (fun n27 h => ?_)
      refine lv_iconst (v := 1) hx hb d_Mo_dropWatcher_30 (by decide) ?_
      refine ob_aldI Cx hP d_Mo_dropWatcher_31 h (fun x31 h => ?_)
      refine ob_astI Cx hP hS d_Mo_dropWatcher_32 h (fun t32 H locs h hP hS => ?_)
      refine lv_aload_n hx hb d_Mo_dropWatcher_33 rfl (lv_at hl 0 rfl) ?_
      refine ob_getR (k := 34) Cx hP ck_11 rfl w_f_Mo_105 d_Mo_dropWatcher_34 h (fun n34 h => ?_)
      refine lv_iconst (v := 0) hx hb d_Mo_dropWatcher_37 (by decide) ?_
      refine lv_aload_n hx hb d_Mo_dropWatcher_38 rfl (lv_at hl 0 rfl) ?_
      refine ob_getR (k := 34) Cx hP ck_11 rfl w_f_Mo_105 d_Mo_dropWatcher_39 h (fun n39 h => ?_)
      refine lv_iconst (v := 1) hx hb d_Mo_dropWatcher_42 (by decide) ?_
      refine ob_aldI Cx hP d_Mo_dropWatcher_43 h (fun x43 h => ?_)
      refine ob_astI Cx hP hS d_Mo_dropWatcher_44 h (fun t44 H locs h hP hS => ?_)
      refine lv_aload_n hx hb d_Mo_dropWatcher_45 rfl (lv_at hl 0 rfl) ?_
      refine ob_getR (k := 35) Cx hP ck_11 rfl w_f_Mo_108 d_Mo_dropWatcher_46 h (fun n46 h => ?_)
      refine lv_iconst (v := 0) hx hb d_Mo_dropWatcher_49 (by decide) ?_
      refine lv_aload_n hx hb d_Mo_dropWatcher_50 rfl (lv_at hl 0 rfl) ?_
      refine ob_getR (k := 35) Cx hP ck_11 rfl w_f_Mo_108 d_Mo_dropWatcher_51 h (fun n51 h => ?_)
      refine lv_iconst (v := 1) hx hb d_Mo_dropWatcher_54 (by decide) ?_
      refine ob_aldI Cx hP d_Mo_dropWatcher_55 h (fun x55 h => ?_)
      refine ob_astI Cx hP hS d_Mo_dropWatcher_56 h (fun t56 H locs h hP hS => ?_)
      refine lv_aload_n hx hb d_Mo_dropWatcher_57 rfl (lv_at hl 0 rfl) ?_
      refine ob_getR (k := 36) Cx hP ck_11 rfl w_f_Mo_111 d_Mo_dropWatcher_58 h (fun n58 h => ?_)
      refine lv_iconst (v := 0) hx hb d_Mo_dropWatcher_61 (by decide) ?_
      refine lv_aload_n hx hb d_Mo_dropWatcher_62 rfl (lv_at hl 0 rfl) ?_
      refine ob_getR (k := 36) Cx hP ck_11 rfl w_f_Mo_111 d_Mo_dropWatcher_63 h (fun n63 h => ?_)
      refine lv_iconst (v := 1) hx hb d_Mo_dropWatcher_66 (by decide) ?_
      refine ob_aldZ Cx hP d_Mo_dropWatcher_67 h (fun x67 h => ?_)
      refine ob_astZ Cx hP hS d_Mo_dropWatcher_68 h (fun t68 H locs h hP hS => ?_)
      refine lv_aload_n hx hb d_Mo_dropWatcher_69 rfl (lv_at hl 0 rfl) ?_
      refine ob_getR (k := 7) Cx hP ck_11 rfl w_f_Mo_26 d_Mo_dropWatcher_70 h (fun n70 h => ?_)
      refine lv_iconst (v := 2) hx hb d_Mo_dropWatcher_73 (by decide) ?_
      refine lv_aload_n hx hb d_Mo_dropWatcher_74 rfl (lv_at hl 0 rfl) ?_
      refine ob_getR (k := 7) Cx hP ck_11 rfl w_f_Mo_26 d_Mo_dropWatcher_75 h (fun n75 h => ?_)
      refine lv_iconst (v := 3) hx hb d_Mo_dropWatcher_78 (by decide) ?_
      refine ob_aldZ Cx hP d_Mo_dropWatcher_79 h (fun x79 h => ?_)
      refine ob_astZ Cx hP hS d_Mo_dropWatcher_80 h (fun t80 H locs h hP hS => ?_)
      refine lv_aload_n hx hb d_Mo_dropWatcher_81 rfl (lv_at hl 0 rfl) ?_
      refine ob_getR (k := 8) Cx hP ck_11 rfl w_f_Mo_30 d_Mo_dropWatcher_82 h (fun n82 h => ?_)
      refine lv_iconst (v := 2) hx hb d_Mo_dropWatcher_85 (by decide) ?_
      refine lv_aload_n hx hb d_Mo_dropWatcher_86 rfl (lv_at hl 0 rfl) ?_
      refine ob_getR (k := 8) Cx hP ck_11 rfl w_f_Mo_30 d_Mo_dropWatcher_87 h (fun n87 h => ?_)
      refine lv_iconst (v := 3) hx hb d_Mo_dropWatcher_90 (by decide) ?_
      refine ob_aldI Cx hP d_Mo_dropWatcher_91 h (fun x91 h => ?_)
      refine ob_astI Cx hP hS d_Mo_dropWatcher_92 h (fun t92 H locs h hP hS => ?_)
      refine lv_aload_n hx hb d_Mo_dropWatcher_93 rfl (lv_at hl 0 rfl) ?_
      refine ob_getR (k := 9) Cx hP ck_11 rfl w_f_Mo_33 d_Mo_dropWatcher_94 h (fun n94 h => ?_)
      refine lv_iconst (v := 2) hx hb d_Mo_dropWatcher_97 (by decide) ?_
      refine lv_aload_n hx hb d_Mo_dropWatcher_98 rfl (lv_at hl 0 rfl) ?_
      refine ob_getR (k := 9) Cx hP ck_11 rfl w_f_Mo_33 d_Mo_dropWatcher_99 h (fun n99 h => ?_)
      refine lv_iconst (v := 3) hx hb d_Mo_dropWatcher_102 (by decide) ?_
      refine ob_aldI Cx hP d_Mo_dropWatcher_103 h (fun x103 h => ?_)
      refine ob_astI Cx hP hS d_Mo_dropWatcher_104 h (fun t104 H locs h hP hS => ?_)
      refine lv_aload_n hx hb d_Mo_dropWatcher_105 rfl (lv_at hl 0 rfl) ?_
      refine ob_getR (k := 10) Cx hP ck_11 rfl w_f_Mo_36 d_Mo_dropWatcher_106 h (fun n106 h => ?_)
      refine lv_iconst (v := 2) hx hb d_Mo_dropWatcher_109 (by decide) ?_
      refine lv_aload_n hx hb d_Mo_dropWatcher_110 rfl (lv_at hl 0 rfl) ?_
      refine ob_getR (k := 10) Cx hP ck_11 rfl w_f_Mo_36 d_Mo_dropWatcher_111 h (fun n111 h => ?_)
      refine lv_iconst (v := 3) hx hb d_Mo_dropWatcher_114 (by decide) ?_
      refine ob_aldI Cx hP d_Mo_dropWatcher_115 h (fun x115 h => ?_)
      refine ob_astI Cx hP hS d_Mo_dropWatcher_116 h (fun t116 H locs h hP hS => ?_)
      refine lv_aload_n hx hb d_Mo_dropWatcher_117 rfl (lv_at hl 0 rfl) ?_
      refine ob_getR (k := 11) Cx hP ck_11 rfl w_f_Mo_39 d_Mo_dropWatcher_118 h (fun n118 h => ?_)
      refine lv_iconst (v := 2) hx hb d_Mo_dropWatcher_121 (by decide) ?_
      refine lv_aload_n hx hb d_Mo_dropWatcher_122 rfl (lv_at hl 0 rfl) ?_
      refine ob_getR (k := 11) Cx hP ck_11 rfl w_f_Mo_39 d_Mo_dropWatcher_123 h (fun n123 h => ?_)
      refine lv_iconst (v := 3) hx hb d_Mo_dropWatcher_126 (by decide) ?_
      refine ob_aldI Cx hP d_Mo_dropWatcher_127 h (fun x127 h => ?_)
      refine ob_astI Cx hP hS d_Mo_dropWatcher_128 h (fun t128 H locs h hP hS => ?_)
      refine lv_aload_n hx hb d_Mo_dropWatcher_129 rfl (lv_at hl 0 rfl) ?_
      refine ob_getR (k := 13) Cx hP ck_11 rfl w_f_Mo_45 d_Mo_dropWatcher_130 h (fun n130 h => ?_)
      refine lv_iconst (v := 2) hx hb d_Mo_dropWatcher_133 (by decide) ?_
      refine lv_aload_n hx hb d_Mo_dropWatcher_134 rfl (lv_at hl 0 rfl) ?_
      refine ob_getR (k := 13) Cx hP ck_11 rfl w_f_Mo_45 d_Mo_dropWatcher_135 h (fun n135 h => ?_)
      refine lv_iconst (v := 3) hx hb d_Mo_dropWatcher_138 (by decide) ?_
      refine ob_aldI Cx hP d_Mo_dropWatcher_139 h (fun x139 h => ?_)
      refine ob_astI Cx hP hS d_Mo_dropWatcher_140 h (fun t140 H locs h hP hS => ?_)
      refine lv_iconst (v := 0) hx hb d_Mo_dropWatcher_141 (by decide) ?_
      refine lv_istore_n (lv' := [(2, .int (0 : Int32)), (0, .ref (b + v0)), (1, .int v1)]) hx hb d_Mo_dropWatcher_142 rfl hl (by decide) rfl (fun ls hl => ?_)
      exact tB_Mo_dropWatcher_143 Cx ob_fu t140 H locs ls v0 (0 : Int32) hP hS (lv_sub hl [1, 0] rfl) h
set_option maxHeartbeats 4000000 in
set_option maxRecDepth 100000 in
theorem tB_Mo_watcherOf_2 {p : Program} {l : Launch} {e : Env} {R : Room} {s : State} {m : MethodId} {args : Array Value} {below : List Frame} {meth : Method} {c : Code} {b : Nat} {D : va_G} {cA : Nat → ClassId} {adK adV : Nat → Nat} {out : (Int32 × ob_S)} (Cx : ob_C p R s m args meth c cb_Mo_watcherOf 3 "ObservedBlocksModel" (some .int) b D cA adK adV 0 0) : ∀ (fu : Nat), ∀ (t : ob_S) (H : Heap) (locs : List Loc) (ls : Array Slot) (v0 : Nat) (v1 : Int32) (v2 : Int32), ob_H b D cA t H → va_S (ob_A b) s.heap H locs → lv_has ls 3 [(0, .ref (b + v0)), (1, .int v1), (2, .int v2)] → B_Mo_watcherOf_2 fu v0 v1 v2 t = some out → W p l e R s m args below meth c H locs 0 0 (MQ below (ob_Qi b D cA out) args s 0 0 (ob_A b)) (F0 m 2 ls []) := by
  have hx := Cx.1.1
  have hb := Cx.1.2.1
  intro fu
  induction fu with
  | zero =>
    intro t H locs ls v0 v1 v2 hP hS hl h
    cases h
  | succ fu ih =>
    intro t H locs ls v0 v1 v2 hP hS hl h
    rw [B_Mo_watcherOf_2] at h
    refine lv_iload_n hx hb d_Mo_watcherOf_2 rfl (lv_at hl 2 rfl) ?_
    refine lv_aload_n hx hb d_Mo_watcherOf_3 rfl (lv_at hl 0 rfl) ?_
    refine ob_getI (k := 32) Cx hP ck_11 rfl w_f_Mo_242 d_Mo_watcherOf_4 h (fun x4 h => ?_)
    refine lv_icmp_ge (tgt := 28) hx hb d_Mo_watcherOf_7 (by decide) (fun hq => ?_) (fun hq => ?_)
    · rw [if_pos hq] at h
      refine lv_iconst (v := -1) hx hb d_Mo_watcherOf_28 (by decide) ?_
      exact ob_iret Cx hP hS d_Mo_watcherOf_29 h
    · rw [if_neg hq] at h
      refine lv_aload_n hx hb d_Mo_watcherOf_10 rfl (lv_at hl 0 rfl) ?_
      refine ob_getR (k := 33) Cx hP ck_11 rfl w_f_Mo_102 d_Mo_watcherOf_11 h (fun n11 h => ?_)
      refine lv_iload_n hx hb d_Mo_watcherOf_14 rfl (lv_at hl 2 rfl) ?_
      refine ob_aldI Cx hP d_Mo_watcherOf_15 h (fun x15 h => ?_)
      refine lv_iload_n hx hb d_Mo_watcherOf_16 rfl (lv_at hl 1 rfl) ?_
      refine lv_icmp_ne (tgt := 22) hx hb d_Mo_watcherOf_17 (by decide) (fun hq => ?_) (fun hq => ?_)
      · rw [if_pos hq] at h
        refine lv_iinc (v := (v2 + (1 : Int32))) (lv' := [(2, .int (v2 + (1 : Int32))), (0, .ref (b + v0)), (1, .int v1)]) hx hb d_Mo_watcherOf_22 hl (k := 2) rfl rfl (by decide) rfl (fun ls hl => ?_)
        refine lv_goto (tgt := 2) hx hb d_Mo_watcherOf_25 (by decide) ?_
        exact ih t H locs ls v0 v1 (v2 + (1 : Int32)) hP hS (lv_sub hl [1, 2, 0] rfl) h
      · rw [if_neg (fun z => z hq)] at h
        refine lv_iload_n hx hb d_Mo_watcherOf_20 rfl (lv_at hl 2 rfl) ?_
        exact ob_iret Cx hP hS d_Mo_watcherOf_21 h
theorem g_Mo_watcherOf (v0 : Nat) (v1 : Int32) {t : ob_S} {out : (Int32 × ob_S)} (h : X_Mo_watcherOf v0 v1 t = some out) : v0 < ob_n t ∧ ob_k t v0 = 11 := by
  unfold X_Mo_watcherOf ob_this at h
  by_cases q : v0 < ob_n t ∧ ob_k t v0 = 11
  · exact q
  · rw [if_neg q] at h
    cases h
set_option maxHeartbeats 4000000 in
set_option maxRecDepth 100000 in
theorem c_Mo_watcherOf {l : Launch} {b : Nat} {D : va_G} {cA : Nat → ClassId} {adK adV : Nat → Nat} (v0 : Nat) (v1 : Int32) {t : ob_S} {out : (Int32 × ob_S)} (h : X_Mo_watcherOf v0 v1 t = some out) : Met l y_Mo_watcherOf (Cond.code y_Mo_watcherOf cb_Mo_watcherOf 3 (some .int) :: ob_T) { frames := 0, cells := 0, slots := 0, locals := 0 } (ob_Pre b D cA adK adV [.ref (b + v0), .int v1] t) (ob_Qi b D cA out) 0 0 (ob_A b) := by
  refine ob_met (by decide) (Nat.le_of_ble_eq_true rfl) ?_
  intro p e R s m args below meth c ls Cx hP hS hl
  have hl : lv_has ls 3 [(0, .ref (b + v0)), (1, .int v1)] := hl
  have hx := Cx.1.1
  have hb := Cx.1.2.1
  have hg := g_Mo_watcherOf v0 v1 h
  unfold X_Mo_watcherOf ob_this at h
  rw [if_pos hg] at h
  obtain ⟨H, hH⟩ : ∃ H, H = s.heap := ⟨_, rfl⟩
  obtain ⟨locs, hL⟩ : ∃ locs : List Loc, locs = [] := ⟨_, rfl⟩
  rw [← hH] at hP
  have hS : va_S (ob_A b) s.heap H locs := by rw [hH, hL]; exact hS
  suffices hW : W p l e R s m args below meth c H locs 0 0 (MQ below (ob_Qi b D cA out) args s 0 0 (ob_A b)) (F0 m 0 ls []) by rw [hH, hL] at hW; exact hW
  refine lv_iconst (v := 0) hx hb d_Mo_watcherOf_0 (by decide) ?_
  refine lv_istore_n (lv' := [(2, .int (0 : Int32)), (0, .ref (b + v0)), (1, .int v1)]) hx hb d_Mo_watcherOf_1 rfl hl (by decide) rfl (fun ls hl => ?_)
  exact tB_Mo_watcherOf_2 Cx ob_fu t H locs ls v0 v1 (0 : Int32) hP hS (lv_sub hl [1, 2, 0] rfl) h
set_option maxHeartbeats 4000000 in
set_option maxRecDepth 100000 in
theorem tB_Mo_writeContent_28 {p : Program} {l : Launch} {e : Env} {R : Room} {s : State} {m : MethodId} {args : Array Value} {below : List Frame} {meth : Method} {c : Code} {b : Nat} {D : va_G} {cA : Nat → ClassId} {adK adV : Nat → Nat} {out : ob_S} (Cx : ob_C p R s m args meth c cb_Mo_writeContent 6 "ObservedBlocksModel" none b D cA adK adV 2 43) : ∀ (fu : Nat), ∀ (t : ob_S) (H : Heap) (locs : List Loc) (ls : Array Slot) (v0 : Nat) (v1 : Int32) (v2 : Int32) (v3 : Int32) (v4 : Int32) (v5 : Int32), ob_H b D cA t H → va_S (ob_A b) s.heap H locs → lv_has ls 6 [(0, .ref (b + v0)), (1, .int v1), (2, .int v2), (3, .int v3), (4, .int v4), (5, .int v5)] → B_Mo_writeContent_28 fu v0 v1 v2 v3 v4 v5 t = some out → W p l e R s m args below meth c H locs 0 0 (MQ below (ob_Qv b D cA out) args s 0 0 (ob_A b)) (F0 m 28 ls []) := by
  have hx := Cx.1.1
  have hb := Cx.1.2.1
  intro fu
  induction fu with
  | zero =>
    intro t H locs ls v0 v1 v2 v3 v4 v5 hP hS hl h
    cases h
  | succ fu ih =>
    intro t H locs ls v0 v1 v2 v3 v4 v5 hP hS hl h
    rw [B_Mo_writeContent_28] at h
    refine lv_iload hx hb d_Mo_writeContent_28 (lv_at hl 5 rfl) ?_
    refine lv_iload hx hb d_Mo_writeContent_30 (lv_at hl 4 rfl) ?_
    refine lv_icmp_ge (tgt := 64) hx hb d_Mo_writeContent_32 (by decide) (fun hq => ?_) (fun hq => ?_)
    · rw [if_pos hq] at h
      exact ob_vret Cx hP hS d_Mo_writeContent_64 h
    · rw [if_neg hq] at h
      refine lv_aload_n hx hb d_Mo_writeContent_35 rfl (lv_at hl 0 rfl) ?_
      refine lv_aload_n hx hb d_Mo_writeContent_36 rfl (lv_at hl 0 rfl) ?_
      refine ob_getR (k := 28) Cx hP ck_11 rfl w_f_Mo_90 d_Mo_writeContent_37 h (fun n37 h => ?_)
      refine lv_bipush (v := 64) hx hb d_Mo_writeContent_40 (by decide) ?_
      refine lv_iload_n hx hb d_Mo_writeContent_42 rfl (lv_at hl 1 rfl) ?_
      refine lv_imul hx hb d_Mo_writeContent_43 ?_
      refine lv_iload_n hx hb d_Mo_writeContent_44 rfl (lv_at hl 2 rfl) ?_
      refine lv_iload_n hx hb d_Mo_writeContent_45 rfl (lv_at hl 3 rfl) ?_
      refine ob_cSi (nA := 1) (As := [.int v3]) (rest := [.int v2, .int ((64 : Int32) * v1), .ref (b + n37), .ref (b + v0)]) Cx hl.1 hP hS (fun o ho => c_Mo_sizeOf v3 ho) ms_Mo_sizeOf w_m_Mo_152 rfl (by decide +kernel) ⟨rfl, rfl⟩ ⟨by decide, by decide⟩ (Nat.le_of_ble_eq_true rfl) rfl d_Mo_writeContent_46 h (fun x46 t46 H locs h hP hS => ?_)
      refine lv_imul hx hb d_Mo_writeContent_49 ?_
      refine lv_iadd hx hb d_Mo_writeContent_50 ?_
      refine lv_iload hx hb d_Mo_writeContent_51 (lv_at hl 5 rfl) ?_
      refine lv_iadd hx hb d_Mo_writeContent_53 ?_
      refine ob_aldI Cx hP d_Mo_writeContent_54 h (fun x54 h => ?_)
      refine ob_cVv (nA := 1) (As := [.int x54]) (rest := []) Cx hl.1 hP hS (fun o ho => c_Mo_write v0 x54 ho) (fun o ho => g_Mo_write v0 x54 ho) (by decide) (rfl : ob_cl[11]? = _) mv_Mo_write w_m_Mo_144 rfl (by decide +kernel) ⟨rfl, rfl⟩ ⟨by decide, by decide⟩ (Nat.le_of_ble_eq_true rfl) rfl d_Mo_writeContent_55 h (fun t55 H locs h hP hS => ?_)
      refine lv_iinc (v := (v5 + (1 : Int32))) (lv' := [(5, .int (v5 + (1 : Int32))), (0, .ref (b + v0)), (1, .int v1), (2, .int v2), (3, .int v3), (4, .int v4)]) hx hb d_Mo_writeContent_58 hl (k := 5) rfl rfl (by decide) rfl (fun ls hl => ?_)
      refine lv_goto (tgt := 28) hx hb d_Mo_writeContent_61 (by decide) ?_
      exact ih t55 H locs ls v0 v1 v2 v3 v4 (v5 + (1 : Int32)) hP hS (lv_sub hl [1, 2, 3, 4, 5, 0] rfl) h
set_option maxHeartbeats 4000000 in
set_option maxRecDepth 100000 in
theorem tB_Mo_writeContent_25 {p : Program} {l : Launch} {e : Env} {R : Room} {s : State} {m : MethodId} {args : Array Value} {below : List Frame} {meth : Method} {c : Code} {b : Nat} {D : va_G} {cA : Nat → ClassId} {adK adV : Nat → Nat} {out : ob_S} (Cx : ob_C p R s m args meth c cb_Mo_writeContent 6 "ObservedBlocksModel" none b D cA adK adV 2 43) : ∀ (t : ob_S) (H : Heap) (locs : List Loc) (ls : Array Slot) (v0 : Nat) (v1 : Int32) (v2 : Int32) (v3 : Int32) (v4 : Int32), ob_H b D cA t H → va_S (ob_A b) s.heap H locs → lv_has ls 6 [(0, .ref (b + v0)), (1, .int v1), (2, .int v2), (3, .int v3), (4, .int v4)] → B_Mo_writeContent_25 v0 v1 v2 v3 v4 t = some out → W p l e R s m args below meth c H locs 0 0 (MQ below (ob_Qv b D cA out) args s 0 0 (ob_A b)) (F0 m 25 ls []) := by
  have hx := Cx.1.1
  have hb := Cx.1.2.1
  intro t H locs ls v0 v1 v2 v3 v4 hP hS hl h
  unfold B_Mo_writeContent_25 at h
  refine lv_iconst (v := 0) hx hb d_Mo_writeContent_25 (by decide) ?_
  refine lv_istore (lv' := [(5, .int (0 : Int32)), (0, .ref (b + v0)), (1, .int v1), (2, .int v2), (3, .int v3), (4, .int v4)]) hx hb d_Mo_writeContent_26 hl (by decide) rfl (fun ls hl => ?_)
  exact tB_Mo_writeContent_28 Cx ob_fu t H locs ls v0 v1 v2 v3 v4 (0 : Int32) hP hS (lv_sub hl [1, 2, 3, 4, 5, 0] rfl) h
theorem g_Mo_writeContent (v0 : Nat) (v1 : Int32) (v2 : Int32) (v3 : Int32) {t : ob_S} {out : ob_S} (h : X_Mo_writeContent v0 v1 v2 v3 t = some out) : v0 < ob_n t ∧ ob_k t v0 = 11 := by
  unfold X_Mo_writeContent ob_this at h
  by_cases q : v0 < ob_n t ∧ ob_k t v0 = 11
  · exact q
  · rw [if_neg q] at h
    cases h
set_option maxHeartbeats 4000000 in
set_option maxRecDepth 100000 in
theorem c_Mo_writeContent {l : Launch} {b : Nat} {D : va_G} {cA : Nat → ClassId} {adK adV : Nat → Nat} (v0 : Nat) (v1 : Int32) (v2 : Int32) (v3 : Int32) {t : ob_S} {out : ob_S} (h : X_Mo_writeContent v0 v1 v2 v3 t = some out) : Met l y_Mo_writeContent (Cond.code y_Mo_writeContent cb_Mo_writeContent 6 none :: ob_T) { frames := 2, cells := 0, slots := 0, locals := 43 } (ob_Pre b D cA adK adV [.ref (b + v0), .int v1, .int v2, .int v3] t) (ob_Qv b D cA out) 0 0 (ob_A b) := by
  refine ob_met (by decide) (Nat.le_of_ble_eq_true rfl) ?_
  intro p e R s m args below meth c ls Cx hP hS hl
  have hl : lv_has ls 6 [(0, .ref (b + v0)), (1, .int v1), (2, .int v2), (3, .int v3)] := hl
  have hx := Cx.1.1
  have hb := Cx.1.2.1
  have hg := g_Mo_writeContent v0 v1 v2 v3 h
  unfold X_Mo_writeContent ob_this at h
  rw [if_pos hg] at h
  obtain ⟨H, hH⟩ : ∃ H, H = s.heap := ⟨_, rfl⟩
  obtain ⟨locs, hL⟩ : ∃ locs : List Loc, locs = [] := ⟨_, rfl⟩
  rw [← hH] at hP
  have hS : va_S (ob_A b) s.heap H locs := by rw [hH, hL]; exact hS
  suffices hW : W p l e R s m args below meth c H locs 0 0 (MQ below (ob_Qv b D cA out) args s 0 0 (ob_A b)) (F0 m 0 ls []) by rw [hH, hL] at hW; exact hW
  refine lv_aload_n hx hb d_Mo_writeContent_0 rfl (lv_at hl 0 rfl) ?_
  refine ob_getR (k := 29) Cx hP ck_11 rfl w_f_Mo_93 d_Mo_writeContent_1 h (fun n1 h => ?_)
  refine lv_iload_n hx hb d_Mo_writeContent_4 rfl (lv_at hl 1 rfl) ?_
  refine ob_aldI Cx hP d_Mo_writeContent_5 h (fun x5 h => ?_)
  refine lv_iload_n hx hb d_Mo_writeContent_6 rfl (lv_at hl 2 rfl) ?_
  refine lv_iload_n hx hb d_Mo_writeContent_7 rfl (lv_at hl 3 rfl) ?_
  refine ob_cSi (nA := 3) (As := [.int x5, .int v2, .int v3]) (rest := []) Cx hl.1 hP hS (fun o ho => c_Mo_within x5 v2 v3 ho) ms_Mo_within w_m_Mo_219 rfl (by decide +kernel) ⟨rfl, rfl⟩ ⟨by decide, by decide⟩ (Nat.le_of_ble_eq_true rfl) rfl d_Mo_writeContent_8 h (fun x8 t8 H locs h hP hS => ?_)
  refine lv_istore (lv' := [(4, .int x8), (0, .ref (b + v0)), (1, .int v1), (2, .int v2), (3, .int v3)]) hx hb d_Mo_writeContent_11 hl (by decide) rfl (fun ls hl => ?_)
  refine lv_iload hx hb d_Mo_writeContent_13 (lv_at hl 0 rfl) ?_
  refine lv_if_le (tgt := 25) hx hb d_Mo_writeContent_15 (by decide) (fun hq => ?_) (fun hq => ?_)
  · rw [if_pos hq] at h
    exact tB_Mo_writeContent_25 Cx t8 H locs ls v0 v1 v2 v3 x8 hP hS (lv_sub hl [1, 2, 3, 4, 0] rfl) h
  · rw [if_neg hq] at h
    refine lv_aload_n hx hb d_Mo_writeContent_18 rfl (lv_at hl 1 rfl) ?_
    refine lv_sipush (v := 255) hx hb d_Mo_writeContent_19 (by decide) ?_
    refine ob_cVv (nA := 1) (As := [.int (255 : Int32)]) (rest := []) Cx hl.1 hP hS (fun o ho => c_Mo_write v0 (255 : Int32) ho) (fun o ho => g_Mo_write v0 (255 : Int32) ho) (by decide) (rfl : ob_cl[11]? = _) mv_Mo_write w_m_Mo_144 rfl (by decide +kernel) ⟨rfl, rfl⟩ ⟨by decide, by decide⟩ (Nat.le_of_ble_eq_true rfl) rfl d_Mo_writeContent_22 h (fun t22 H locs h hP hS => ?_)
    exact tB_Mo_writeContent_25 Cx t22 H locs ls v0 v1 v2 v3 x8 hP hS (lv_sub hl [1, 2, 3, 4, 0] rfl) h
theorem g_Mo_tell (v0 : Nat) (v1 : Int32) {t : ob_S} {out : ob_S} (h : X_Mo_tell v0 v1 t = some out) : v0 < ob_n t ∧ ob_k t v0 = 11 := by
  unfold X_Mo_tell ob_this at h
  by_cases q : v0 < ob_n t ∧ ob_k t v0 = 11
  · exact q
  · rw [if_neg q] at h
    cases h
set_option maxHeartbeats 4000000 in
set_option maxRecDepth 100000 in
theorem c_Mo_tell {l : Launch} {b : Nat} {D : va_G} {cA : Nat → ClassId} {adK adV : Nat → Nat} (v0 : Nat) (v1 : Int32) {t : ob_S} {out : ob_S} (h : X_Mo_tell v0 v1 t = some out) : Met l y_Mo_tell (Cond.code y_Mo_tell cb_Mo_tell 4 none :: ob_T) { frames := 3, cells := 0, slots := 0, locals := 68 } (ob_Pre b D cA adK adV [.ref (b + v0), .int v1] t) (ob_Qv b D cA out) 0 0 (ob_A b) := by
  refine ob_met (by decide) (Nat.le_of_ble_eq_true rfl) ?_
  intro p e R s m args below meth c ls Cx hP hS hl
  have hl : lv_has ls 4 [(0, .ref (b + v0)), (1, .int v1)] := hl
  have hx := Cx.1.1
  have hb := Cx.1.2.1
  have hg := g_Mo_tell v0 v1 h
  unfold X_Mo_tell ob_this at h
  rw [if_pos hg] at h
  obtain ⟨H, hH⟩ : ∃ H, H = s.heap := ⟨_, rfl⟩
  obtain ⟨locs, hL⟩ : ∃ locs : List Loc, locs = [] := ⟨_, rfl⟩
  rw [← hH] at hP
  have hS : va_S (ob_A b) s.heap H locs := by rw [hH, hL]; exact hS
  suffices hW : W p l e R s m args below meth c H locs 0 0 (MQ below (ob_Qv b D cA out) args s 0 0 (ob_A b)) (F0 m 0 ls []) by rw [hH, hL] at hW; exact hW
  refine lv_aload_n hx hb d_Mo_tell_0 rfl (lv_at hl 0 rfl) ?_
  refine ob_getR (k := 7) Cx hP ck_11 rfl w_f_Mo_26 d_Mo_tell_1 h (fun n1 h => ?_)
  refine lv_iconst (v := 2) hx hb d_Mo_tell_4 (by decide) ?_
  refine lv_iload_n hx hb d_Mo_tell_5 rfl (lv_at hl 1 rfl) ?_
  refine lv_iadd hx hb d_Mo_tell_6 ?_
  refine ob_aldZ Cx hP d_Mo_tell_7 h (fun x7 h => ?_)
  refine lv_if_eq (tgt := 19) hx hb d_Mo_tell_8 (by decide) (fun hq => ?_) (fun hq => ?_)
  · rw [if_pos hq] at h
    refine lv_aload_n hx hb d_Mo_tell_19 rfl (lv_at hl 0 rfl) ?_
    refine ob_getR (k := 36) Cx hP ck_11 rfl w_f_Mo_111 d_Mo_tell_20 h (fun n20 h => ?_)
    refine lv_iload_n hx hb d_Mo_tell_23 rfl (lv_at hl 1 rfl) ?_
    refine lv_iconst (v := 0) hx hb d_Mo_tell_24 (by decide) ?_
    refine ob_astZ Cx hP hS d_Mo_tell_25 h (fun t25 H locs h hP hS => ?_)
    refine lv_aload_n hx hb d_Mo_tell_26 rfl (lv_at hl 0 rfl) ?_
    refine lv_aload_n hx hb d_Mo_tell_27 rfl (lv_at hl 0 rfl) ?_
    refine ob_getI (k := 37) Cx hP ck_11 rfl w_f_Mo_245 d_Mo_tell_28 h (fun x28 h => ?_)
    refine lv_iconst (v := 1) hx hb d_Mo_tell_31 (by decide) ?_
    refine lv_iadd hx hb d_Mo_tell_32 ?_
    refine lv_ldc (v := 65536) hx hb Cx.1.2.2.2.1 (Cx.1.2.2.2.2 _ w_const_ObservedBlocksModel_225) d_Mo_tell_33 ?_
    refine lv_irem hx hb d_Mo_tell_35 (by decide) ?_
    refine ob_putI (k := 37) Cx hP hS ck_11 rfl rfl rfl w_f_Mo_245 d_Mo_tell_36 h (fun t36 H locs h hP hS => ?_)
    refine lv_aload_n hx hb d_Mo_tell_39 rfl (lv_at hl 0 rfl) ?_
    refine ob_getR (k := 34) Cx hP ck_11 rfl w_f_Mo_105 d_Mo_tell_40 h (fun n40 h => ?_)
    refine lv_iload_n hx hb d_Mo_tell_43 rfl (lv_at hl 1 rfl) ?_
    refine ob_aldI Cx hP d_Mo_tell_44 h (fun x44 h => ?_)
    refine lv_istore_n (lv' := [(2, .int x44), (0, .ref (b + v0)), (1, .int v1)]) hx hb d_Mo_tell_45 rfl hl (by decide) rfl (fun ls hl => ?_)
    refine lv_aload_n hx hb d_Mo_tell_46 rfl (lv_at hl 1 rfl) ?_
    refine ob_getR (k := 35) Cx hP ck_11 rfl w_f_Mo_108 d_Mo_tell_47 h (fun n47 h => ?_)
    refine lv_iload_n hx hb d_Mo_tell_50 rfl (lv_at hl 2 rfl) ?_
    refine ob_aldI Cx hP d_Mo_tell_51 h (fun x51 h => ?_)
    refine lv_istore_n (lv' := [(3, .int x51), (2, .int x44), (0, .ref (b + v0)), (1, .int v1)]) hx hb d_Mo_tell_52 rfl hl (by decide) rfl (fun ls hl => ?_)
    refine lv_aload_n hx hb d_Mo_tell_53 rfl (lv_at hl 2 rfl) ?_
    refine lv_iconst (v := 0) hx hb d_Mo_tell_54 (by decide) ?_
    refine lv_bipush (v := 69) hx hb d_Mo_tell_55 (by decide) ?_
    refine lv_aload_n hx hb d_Mo_tell_57 rfl (lv_at hl 2 rfl) ?_
    refine ob_getI (k := 6) Cx hP ck_11 rfl w_f_Mo_23 d_Mo_tell_58 h (fun x58 h => ?_)
    refine ob_cVv (nA := 3) (As := [.int (0 : Int32), .int (69 : Int32), .int x58]) (rest := []) Cx hl.1 hP hS (fun o ho => c_Mo_begin v0 (0 : Int32) (69 : Int32) x58 ho) (fun o ho => g_Mo_begin v0 (0 : Int32) (69 : Int32) x58 ho) (by decide) (rfl : ob_cl[11]? = _) mv_Mo_begin w_m_Mo_162 rfl (by decide +kernel) ⟨rfl, rfl⟩ ⟨by decide, by decide⟩ (Nat.le_of_ble_eq_true rfl) rfl d_Mo_tell_61 h (fun t61 H locs h hP hS => ?_)
    refine lv_aload_n hx hb d_Mo_tell_64 rfl (lv_at hl 2 rfl) ?_
    refine lv_aload_n hx hb d_Mo_tell_65 rfl (lv_at hl 2 rfl) ?_
    refine ob_getR (k := 33) Cx hP ck_11 rfl w_f_Mo_102 d_Mo_tell_66 h (fun n66 h => ?_)
    refine lv_iload_n hx hb d_Mo_tell_69 rfl (lv_at hl 3 rfl) ?_
    refine ob_aldI Cx hP d_Mo_tell_70 h (fun x70 h => ?_)
    refine ob_cVv (nA := 1) (As := [.int x70]) (rest := []) Cx hl.1 hP hS (fun o ho => c_Mo_write v0 x70 ho) (fun o ho => g_Mo_write v0 x70 ho) (by decide) (rfl : ob_cl[11]? = _) mv_Mo_write w_m_Mo_144 rfl (by decide +kernel) ⟨rfl, rfl⟩ ⟨by decide, by decide⟩ (Nat.le_of_ble_eq_true rfl) rfl d_Mo_tell_71 h (fun t71 H locs h hP hS => ?_)
    refine lv_aload_n hx hb d_Mo_tell_74 rfl (lv_at hl 2 rfl) ?_
    refine lv_bipush (v := 6) hx hb d_Mo_tell_75 (by decide) ?_
    refine lv_aload_n hx hb d_Mo_tell_77 rfl (lv_at hl 2 rfl) ?_
    refine ob_getI (k := 37) Cx hP ck_11 rfl w_f_Mo_245 d_Mo_tell_78 h (fun x78 h => ?_)
    refine ob_cVv (nA := 2) (As := [.int (6 : Int32), .int x78]) (rest := []) Cx hl.1 hP hS (fun o ho => c_Mo_option v0 (6 : Int32) x78 ho) (fun o ho => g_Mo_option v0 (6 : Int32) x78 ho) (by decide) (rfl : ob_cl[11]? = _) mv_Mo_option w_m_Mo_209 rfl (by decide +kernel) ⟨rfl, rfl⟩ ⟨by decide, by decide⟩ (Nat.le_of_ble_eq_true rfl) rfl d_Mo_tell_81 h (fun t81 H locs h hP hS => ?_)
    refine lv_aload_n hx hb d_Mo_tell_84 rfl (lv_at hl 2 rfl) ?_
    refine lv_bipush (v := 23) hx hb d_Mo_tell_85 (by decide) ?_
    refine lv_bipush (v := 8) hx hb d_Mo_tell_87 (by decide) ?_
    refine lv_aload_n hx hb d_Mo_tell_89 rfl (lv_at hl 2 rfl) ?_
    refine ob_getR (k := 29) Cx hP ck_11 rfl w_f_Mo_93 d_Mo_tell_90 h (fun n90 h => ?_)
    refine lv_iload_n hx hb d_Mo_tell_93 rfl (lv_at hl 1 rfl) ?_
    refine ob_aldI Cx hP d_Mo_tell_94 h (fun x94 h => ?_)
    refine lv_iconst (v := 0) hx hb d_Mo_tell_95 (by decide) ?_
    refine lv_iload_n hx hb d_Mo_tell_96 rfl (lv_at hl 0 rfl) ?_
    refine ob_cSi (nA := 3) (As := [.int x94, .int (0 : Int32), .int x51]) (rest := [.int (8 : Int32), .int (23 : Int32), .ref (b + v0)]) Cx hl.1 hP hS (fun o ho => c_Mo_more x94 (0 : Int32) x51 ho) ms_Mo_more w_m_Mo_215 rfl (by decide +kernel) ⟨rfl, rfl⟩ ⟨by decide, by decide⟩ (Nat.le_of_ble_eq_true rfl) rfl d_Mo_tell_97 h (fun x97 t97 H locs h hP hS => ?_)
    refine lv_imul hx hb d_Mo_tell_100 ?_
    refine lv_iload_n hx hb d_Mo_tell_101 rfl (lv_at hl 0 rfl) ?_
    refine lv_iadd hx hb d_Mo_tell_102 ?_
    refine ob_cVv (nA := 2) (As := [.int (23 : Int32), .int (((8 : Int32) * x97) + x51)]) (rest := []) Cx hl.1 hP hS (fun o ho => c_Mo_option v0 (23 : Int32) (((8 : Int32) * x97) + x51) ho) (fun o ho => g_Mo_option v0 (23 : Int32) (((8 : Int32) * x97) + x51) ho) (by decide) (rfl : ob_cl[11]? = _) mv_Mo_option w_m_Mo_209 rfl (by decide +kernel) ⟨rfl, rfl⟩ ⟨by decide, by decide⟩ (Nat.le_of_ble_eq_true rfl) rfl d_Mo_tell_103 h (fun t103 H locs h hP hS => ?_)
    refine lv_aload_n hx hb d_Mo_tell_106 rfl (lv_at hl 2 rfl) ?_
    refine lv_iload_n hx hb d_Mo_tell_107 rfl (lv_at hl 1 rfl) ?_
    refine lv_iconst (v := 0) hx hb d_Mo_tell_108 (by decide) ?_
    refine lv_iload_n hx hb d_Mo_tell_109 rfl (lv_at hl 0 rfl) ?_
    refine ob_cVv (nA := 3) (As := [.int x44, .int (0 : Int32), .int x51]) (rest := []) Cx hl.1 hP hS (fun o ho => c_Mo_writeContent v0 x44 (0 : Int32) x51 ho) (fun o ho => g_Mo_writeContent v0 x44 (0 : Int32) x51 ho) (by decide) (rfl : ob_cl[11]? = _) mv_Mo_writeContent w_m_Mo_248 rfl (by decide +kernel) ⟨rfl, rfl⟩ ⟨by decide, by decide⟩ (Nat.le_of_ble_eq_true rfl) rfl d_Mo_tell_110 h (fun t110 H locs h hP hS => ?_)
    refine lv_aload_n hx hb d_Mo_tell_113 rfl (lv_at hl 2 rfl) ?_
    refine lv_iconst (v := 2) hx hb d_Mo_tell_114 (by decide) ?_
    refine lv_iload_n hx hb d_Mo_tell_115 rfl (lv_at hl 3 rfl) ?_
    refine lv_iadd hx hb d_Mo_tell_116 ?_
    refine lv_aload_n hx hb d_Mo_tell_117 rfl (lv_at hl 2 rfl) ?_
    refine ob_getI (k := 6) Cx hP ck_11 rfl w_f_Mo_23 d_Mo_tell_118 h (fun x118 h => ?_)
    refine ob_cVv (nA := 2) (As := [.int ((2 : Int32) + v1), .int x118]) (rest := []) Cx hl.1 hP hS (fun o ho => c_Mo_hold v0 ((2 : Int32) + v1) x118 ho) (fun o ho => g_Mo_hold v0 ((2 : Int32) + v1) x118 ho) (by decide) (rfl : ob_cl[11]? = _) mv_Mo_hold w_m_Mo_222 rfl (by decide +kernel) ⟨rfl, rfl⟩ ⟨by decide, by decide⟩ (Nat.le_of_ble_eq_true rfl) rfl d_Mo_tell_121 h (fun t121 H locs h hP hS => ?_)
    refine lv_aload_n hx hb d_Mo_tell_124 rfl (lv_at hl 2 rfl) ?_
    refine lv_aload_n hx hb d_Mo_tell_125 rfl (lv_at hl 2 rfl) ?_
    refine ob_getI (k := 6) Cx hP ck_11 rfl w_f_Mo_23 d_Mo_tell_126 h (fun x126 h => ?_)
    refine lv_iconst (v := 1) hx hb d_Mo_tell_129 (by decide) ?_
    refine lv_iadd hx hb d_Mo_tell_130 ?_
    refine lv_ldc (v := 65536) hx hb Cx.1.2.2.2.1 (Cx.1.2.2.2.2 _ w_const_ObservedBlocksModel_225) d_Mo_tell_131 ?_
    refine lv_irem hx hb d_Mo_tell_133 (by decide) ?_
    refine ob_putI (k := 6) Cx hP hS ck_11 rfl rfl rfl w_f_Mo_23 d_Mo_tell_134 h (fun t134 H locs h hP hS => ?_)
    refine lv_aload_n hx hb d_Mo_tell_137 rfl (lv_at hl 2 rfl) ?_
    refine lv_iconst (v := 0) hx hb d_Mo_tell_138 (by decide) ?_
    refine ob_cVv (nA := 1) (As := [.int (0 : Int32)]) (rest := []) Cx hl.1 hP hS (fun o ho => c_Mo_send v0 (0 : Int32) ho) (fun o ho => g_Mo_send v0 (0 : Int32) ho) (by decide) (rfl : ob_cl[11]? = _) mv_Mo_send w_m_Mo_159 rfl (by decide +kernel) ⟨rfl, rfl⟩ ⟨by decide, by decide⟩ (Nat.le_of_ble_eq_true rfl) rfl d_Mo_tell_139 h (fun t139 H locs h hP hS => ?_)
    exact ob_vret Cx hP hS d_Mo_tell_142 h
  · rw [if_neg hq] at h
    refine lv_aload_n hx hb d_Mo_tell_11 rfl (lv_at hl 0 rfl) ?_
    refine ob_getR (k := 36) Cx hP ck_11 rfl w_f_Mo_111 d_Mo_tell_12 h (fun n12 h => ?_)
    refine lv_iload_n hx hb d_Mo_tell_15 rfl (lv_at hl 1 rfl) ?_
    refine lv_iconst (v := 1) hx hb d_Mo_tell_16 (by decide) ?_
    refine ob_astZ Cx hP hS d_Mo_tell_17 h (fun t17 H locs h hP hS => ?_)
    exact ob_vret Cx hP hS d_Mo_tell_18 h
set_option maxHeartbeats 4000000 in
set_option maxRecDepth 100000 in
theorem tB_Mo_tellAll_25 {p : Program} {l : Launch} {e : Env} {R : Room} {s : State} {m : MethodId} {args : Array Value} {below : List Frame} {meth : Method} {c : Code} {b : Nat} {D : va_G} {cA : Nat → ClassId} {adK adV : Nat → Nat} {out : ob_S} (Cx : ob_C p R s m args meth c cb_Mo_tellAll 3 "ObservedBlocksModel" none b D cA adK adV 4 91) {k2 : Nat → Int32 → Int32 → ob_S → Option ob_S} (hk2 : ∀ (t : ob_S) (H : Heap) (locs : List Loc) (ls : Array Slot) (v0 : Nat) (v1 : Int32) (v2 : Int32), ob_H b D cA t H → va_S (ob_A b) s.heap H locs → lv_has ls 3 [(0, .ref (b + v0)), (1, .int v1), (2, .int v2)] → k2 v0 v1 v2 t = some out → W p l e R s m args below meth c H locs 0 0 (MQ below (ob_Qv b D cA out) args s 0 0 (ob_A b)) (F0 m 2 ls [])) : ∀ (t : ob_S) (H : Heap) (locs : List Loc) (ls : Array Slot) (v0 : Nat) (v1 : Int32) (v2 : Int32), ob_H b D cA t H → va_S (ob_A b) s.heap H locs → lv_has ls 3 [(0, .ref (b + v0)), (1, .int v1), (2, .int v2)] → B_Mo_tellAll_25 k2 v0 v1 v2 t = some out → W p l e R s m args below meth c H locs 0 0 (MQ below (ob_Qv b D cA out) args s 0 0 (ob_A b)) (F0 m 25 ls []) := by
  have hx := Cx.1.1
  have hb := Cx.1.2.1
  intro t H locs ls v0 v1 v2 hP hS hl h
  unfold B_Mo_tellAll_25 at h
  refine lv_iinc (v := (v2 + (1 : Int32))) (lv' := [(2, .int (v2 + (1 : Int32))), (0, .ref (b + v0)), (1, .int v1)]) hx hb d_Mo_tellAll_25 hl (k := 2) rfl rfl (by decide) rfl (fun ls hl => ?_)
  refine lv_goto (tgt := 2) hx hb d_Mo_tellAll_28 (by decide) ?_
  exact hk2 t H locs ls v0 v1 (v2 + (1 : Int32)) hP hS (lv_sub hl [1, 2, 0] rfl) h
set_option maxHeartbeats 4000000 in
set_option maxRecDepth 100000 in
theorem tB_Mo_tellAll_2 {p : Program} {l : Launch} {e : Env} {R : Room} {s : State} {m : MethodId} {args : Array Value} {below : List Frame} {meth : Method} {c : Code} {b : Nat} {D : va_G} {cA : Nat → ClassId} {adK adV : Nat → Nat} {out : ob_S} (Cx : ob_C p R s m args meth c cb_Mo_tellAll 3 "ObservedBlocksModel" none b D cA adK adV 4 91) : ∀ (fu : Nat), ∀ (t : ob_S) (H : Heap) (locs : List Loc) (ls : Array Slot) (v0 : Nat) (v1 : Int32) (v2 : Int32), ob_H b D cA t H → va_S (ob_A b) s.heap H locs → lv_has ls 3 [(0, .ref (b + v0)), (1, .int v1), (2, .int v2)] → B_Mo_tellAll_2 fu v0 v1 v2 t = some out → W p l e R s m args below meth c H locs 0 0 (MQ below (ob_Qv b D cA out) args s 0 0 (ob_A b)) (F0 m 2 ls []) := by
  have hx := Cx.1.1
  have hb := Cx.1.2.1
  intro fu
  induction fu with
  | zero =>
    intro t H locs ls v0 v1 v2 hP hS hl h
    cases h
  | succ fu ih =>
    intro t H locs ls v0 v1 v2 hP hS hl h
    rw [B_Mo_tellAll_2] at h
    refine lv_iload_n hx hb d_Mo_tellAll_2 rfl (lv_at hl 2 rfl) ?_
    refine lv_aload_n hx hb d_Mo_tellAll_3 rfl (lv_at hl 0 rfl) ?_
    refine ob_getI (k := 32) Cx hP ck_11 rfl w_f_Mo_242 d_Mo_tellAll_4 h (fun x4 h => ?_)
    refine lv_icmp_ge (tgt := 31) hx hb d_Mo_tellAll_7 (by decide) (fun hq => ?_) (fun hq => ?_)
    · rw [if_pos hq] at h
      exact ob_vret Cx hP hS d_Mo_tellAll_31 h
    · rw [if_neg hq] at h
      refine lv_aload_n hx hb d_Mo_tellAll_10 rfl (lv_at hl 0 rfl) ?_
      refine ob_getR (k := 34) Cx hP ck_11 rfl w_f_Mo_105 d_Mo_tellAll_11 h (fun n11 h => ?_)
      refine lv_iload_n hx hb d_Mo_tellAll_14 rfl (lv_at hl 2 rfl) ?_
      refine ob_aldI Cx hP d_Mo_tellAll_15 h (fun x15 h => ?_)
      refine lv_iload_n hx hb d_Mo_tellAll_16 rfl (lv_at hl 1 rfl) ?_
      refine lv_icmp_ne (tgt := 25) hx hb d_Mo_tellAll_17 (by decide) (fun hq => ?_) (fun hq => ?_)
      · rw [if_pos hq] at h
        exact tB_Mo_tellAll_25 Cx ih t H locs ls v0 v1 v2 hP hS (lv_sub hl [0, 1, 2] rfl) h
      · rw [if_neg (fun z => z hq)] at h
        refine lv_aload_n hx hb d_Mo_tellAll_20 rfl (lv_at hl 0 rfl) ?_
        refine lv_iload_n hx hb d_Mo_tellAll_21 rfl (lv_at hl 2 rfl) ?_
        refine ob_cVv (nA := 1) (As := [.int v2]) (rest := []) Cx hl.1 hP hS (fun o ho => c_Mo_tell v0 v2 ho) (fun o ho => g_Mo_tell v0 v2 ho) (by decide) (rfl : ob_cl[11]? = _) mv_Mo_tell w_m_Mo_251 rfl (by decide +kernel) ⟨rfl, rfl⟩ ⟨by decide, by decide⟩ (Nat.le_of_ble_eq_true rfl) rfl d_Mo_tellAll_22 h (fun t22 H locs h hP hS => ?_)
        exact tB_Mo_tellAll_25 Cx ih t22 H locs ls v0 v1 v2 hP hS (lv_sub hl [0, 1, 2] rfl) h
theorem g_Mo_tellAll (v0 : Nat) (v1 : Int32) {t : ob_S} {out : ob_S} (h : X_Mo_tellAll v0 v1 t = some out) : v0 < ob_n t ∧ ob_k t v0 = 11 := by
  unfold X_Mo_tellAll ob_this at h
  by_cases q : v0 < ob_n t ∧ ob_k t v0 = 11
  · exact q
  · rw [if_neg q] at h
    cases h
set_option maxHeartbeats 4000000 in
set_option maxRecDepth 100000 in
theorem c_Mo_tellAll {l : Launch} {b : Nat} {D : va_G} {cA : Nat → ClassId} {adK adV : Nat → Nat} (v0 : Nat) (v1 : Int32) {t : ob_S} {out : ob_S} (h : X_Mo_tellAll v0 v1 t = some out) : Met l y_Mo_tellAll (Cond.code y_Mo_tellAll cb_Mo_tellAll 3 none :: ob_T) { frames := 4, cells := 0, slots := 0, locals := 91 } (ob_Pre b D cA adK adV [.ref (b + v0), .int v1] t) (ob_Qv b D cA out) 0 0 (ob_A b) := by
  refine ob_met (by decide) (Nat.le_of_ble_eq_true rfl) ?_
  intro p e R s m args below meth c ls Cx hP hS hl
  have hl : lv_has ls 3 [(0, .ref (b + v0)), (1, .int v1)] := hl
  have hx := Cx.1.1
  have hb := Cx.1.2.1
  have hg := g_Mo_tellAll v0 v1 h
  unfold X_Mo_tellAll ob_this at h
  rw [if_pos hg] at h
  obtain ⟨H, hH⟩ : ∃ H, H = s.heap := ⟨_, rfl⟩
  obtain ⟨locs, hL⟩ : ∃ locs : List Loc, locs = [] := ⟨_, rfl⟩
  rw [← hH] at hP
  have hS : va_S (ob_A b) s.heap H locs := by rw [hH, hL]; exact hS
  suffices hW : W p l e R s m args below meth c H locs 0 0 (MQ below (ob_Qv b D cA out) args s 0 0 (ob_A b)) (F0 m 0 ls []) by rw [hH, hL] at hW; exact hW
  refine lv_iconst (v := 0) hx hb d_Mo_tellAll_0 (by decide) ?_
  refine lv_istore_n (lv' := [(2, .int (0 : Int32)), (0, .ref (b + v0)), (1, .int v1)]) hx hb d_Mo_tellAll_1 rfl hl (by decide) rfl (fun ls hl => ?_)
  exact tB_Mo_tellAll_2 Cx ob_fu t H locs ls v0 v1 (0 : Int32) hP hS (lv_sub hl [1, 2, 0] rfl) h
set_option maxHeartbeats 4000000 in
set_option maxRecDepth 100000 in
theorem tB_Mo_registers_11 {p : Program} {l : Launch} {e : Env} {R : Room} {s : State} {m : MethodId} {args : Array Value} {below : List Frame} {meth : Method} {c : Code} {b : Nat} {D : va_G} {cA : Nat → ClassId} {adK adV : Nat → Nat} {out : (Int32 × ob_S)} (Cx : ob_C p R s m args meth c cb_Mo_registers 5 "ObservedBlocksModel" (some .boolean) b D cA adK adV 1 22) : ∀ (t : ob_S) (H : Heap) (locs : List Loc) (ls : Array Slot), ob_H b D cA t H → va_S (ob_A b) s.heap H locs → lv_has ls 5 [] → B_Mo_registers_11 t = some out → W p l e R s m args below meth c H locs 0 0 (MQ below (ob_Qi b D cA out) args s 0 0 (ob_A b)) (F0 m 11 ls []) := by
  have hx := Cx.1.1
  have hb := Cx.1.2.1
  intro t H locs ls  hP hS hl h
  unfold B_Mo_registers_11 at h
  refine lv_iconst (v := 0) hx hb d_Mo_registers_11 (by decide) ?_
  exact ob_zret Cx hP hS d_Mo_registers_12 h
set_option maxHeartbeats 4000000 in
set_option maxRecDepth 100000 in
theorem tB_Mo_registers_59 {p : Program} {l : Launch} {e : Env} {R : Room} {s : State} {m : MethodId} {args : Array Value} {below : List Frame} {meth : Method} {c : Code} {b : Nat} {D : va_G} {cA : Nat → ClassId} {adK adV : Nat → Nat} {out : (Int32 × ob_S)} (Cx : ob_C p R s m args meth c cb_Mo_registers 5 "ObservedBlocksModel" (some .boolean) b D cA adK adV 1 22) : ∀ (t : ob_S) (H : Heap) (locs : List Loc) (ls : Array Slot) (v0 : Nat) (v1 : Int32) (v3 : Int32) (v4 : Int32), ob_H b D cA t H → va_S (ob_A b) s.heap H locs → lv_has ls 5 [(0, .ref (b + v0)), (1, .int v1), (3, .int v3), (4, .int v4)] → B_Mo_registers_59 v0 v1 v3 v4 t = some out → W p l e R s m args below meth c H locs 0 0 (MQ below (ob_Qi b D cA out) args s 0 0 (ob_A b)) (F0 m 59 ls []) := by
  have hx := Cx.1.1
  have hb := Cx.1.2.1
  intro t H locs ls v0 v1 v3 v4 hP hS hl h
  unfold B_Mo_registers_59 at h
  refine lv_aload_n hx hb d_Mo_registers_59 rfl (lv_at hl 0 rfl) ?_
  refine ob_getR (k := 33) Cx hP ck_11 rfl w_f_Mo_102 d_Mo_registers_60 h (fun n60 h => ?_)
  refine lv_iload hx hb d_Mo_registers_63 (lv_at hl 3 rfl) ?_
  refine lv_aload_n hx hb d_Mo_registers_65 rfl (lv_at hl 0 rfl) ?_
  refine ob_getI (k := 52) Cx hP ck_11 rfl w_f_Mo_188 d_Mo_registers_66 h (fun x66 h => ?_)
  refine ob_astI Cx hP hS d_Mo_registers_69 h (fun t69 H locs h hP hS => ?_)
  refine lv_aload_n hx hb d_Mo_registers_70 rfl (lv_at hl 0 rfl) ?_
  refine ob_getR (k := 34) Cx hP ck_11 rfl w_f_Mo_105 d_Mo_registers_71 h (fun n71 h => ?_)
  refine lv_iload hx hb d_Mo_registers_74 (lv_at hl 3 rfl) ?_
  refine lv_iload_n hx hb d_Mo_registers_76 rfl (lv_at hl 1 rfl) ?_
  refine ob_astI Cx hP hS d_Mo_registers_77 h (fun t77 H locs h hP hS => ?_)
  refine lv_aload_n hx hb d_Mo_registers_78 rfl (lv_at hl 0 rfl) ?_
  refine ob_getR (k := 35) Cx hP ck_11 rfl w_f_Mo_108 d_Mo_registers_79 h (fun n79 h => ?_)
  refine lv_iload hx hb d_Mo_registers_82 (lv_at hl 3 rfl) ?_
  refine lv_iload_n hx hb d_Mo_registers_84 rfl (lv_at hl 2 rfl) ?_
  refine ob_astI Cx hP hS d_Mo_registers_85 h (fun t85 H locs h hP hS => ?_)
  refine lv_aload_n hx hb d_Mo_registers_86 rfl (lv_at hl 0 rfl) ?_
  refine ob_getR (k := 36) Cx hP ck_11 rfl w_f_Mo_111 d_Mo_registers_87 h (fun n87 h => ?_)
  refine lv_iload hx hb d_Mo_registers_90 (lv_at hl 3 rfl) ?_
  refine lv_iconst (v := 0) hx hb d_Mo_registers_92 (by decide) ?_
  refine ob_astZ Cx hP hS d_Mo_registers_93 h (fun t93 H locs h hP hS => ?_)
  refine lv_aload_n hx hb d_Mo_registers_94 rfl (lv_at hl 0 rfl) ?_
  refine ob_getR (k := 7) Cx hP ck_11 rfl w_f_Mo_26 d_Mo_registers_95 h (fun n95 h => ?_)
  refine lv_iconst (v := 2) hx hb d_Mo_registers_98 (by decide) ?_
  refine lv_iload hx hb d_Mo_registers_99 (lv_at hl 3 rfl) ?_
  refine lv_iadd hx hb d_Mo_registers_101 ?_
  refine lv_iconst (v := 0) hx hb d_Mo_registers_102 (by decide) ?_
  refine ob_astZ Cx hP hS d_Mo_registers_103 h (fun t103 H locs h hP hS => ?_)
  refine lv_aload_n hx hb d_Mo_registers_104 rfl (lv_at hl 0 rfl) ?_
  refine lv_aload_n hx hb d_Mo_registers_105 rfl (lv_at hl 0 rfl) ?_
  refine ob_getI (k := 37) Cx hP ck_11 rfl w_f_Mo_245 d_Mo_registers_106 h (fun x106 h => ?_)
  refine lv_iconst (v := 1) hx hb d_Mo_registers_109 (by decide) ?_
  refine lv_iadd hx hb d_Mo_registers_110 ?_
  refine lv_ldc (v := 65536) hx hb Cx.1.2.2.2.1 (Cx.1.2.2.2.2 _ w_const_ObservedBlocksModel_225) d_Mo_registers_111 ?_
  refine lv_irem hx hb d_Mo_registers_113 (by decide) ?_
  refine ob_putI (k := 37) Cx hP hS ck_11 rfl rfl rfl w_f_Mo_245 d_Mo_registers_114 h (fun t114 H locs h hP hS => ?_)
  refine lv_iconst (v := 1) hx hb d_Mo_registers_117 (by decide) ?_
  exact ob_zret Cx hP hS d_Mo_registers_118 h
set_option maxHeartbeats 4000000 in
set_option maxRecDepth 100000 in
theorem tB_Mo_registers_38 {p : Program} {l : Launch} {e : Env} {R : Room} {s : State} {m : MethodId} {args : Array Value} {below : List Frame} {meth : Method} {c : Code} {b : Nat} {D : va_G} {cA : Nat → ClassId} {adK adV : Nat → Nat} {out : (Int32 × ob_S)} (Cx : ob_C p R s m args meth c cb_Mo_registers 5 "ObservedBlocksModel" (some .boolean) b D cA adK adV 1 22) : ∀ (t : ob_S) (H : Heap) (locs : List Loc) (ls : Array Slot) (v0 : Nat) (v1 : Int32) (v3 : Int32) (v4 : Int32), ob_H b D cA t H → va_S (ob_A b) s.heap H locs → lv_has ls 5 [(0, .ref (b + v0)), (1, .int v1), (3, .int v3), (4, .int v4)] → B_Mo_registers_38 v0 v1 v3 v4 t = some out → W p l e R s m args below meth c H locs 0 0 (MQ below (ob_Qi b D cA out) args s 0 0 (ob_A b)) (F0 m 38 ls []) := by
  have hx := Cx.1.1
  have hb := Cx.1.2.1
  intro t H locs ls v0 v1 v3 v4 hP hS hl h
  unfold B_Mo_registers_38 at h
  refine lv_iload hx hb d_Mo_registers_38 (lv_at hl 3 rfl) ?_
  refine lv_if_ge (tgt := 59) hx hb d_Mo_registers_40 (by decide) (fun hq => ?_) (fun hq => ?_)
  · rw [if_pos hq] at h
    exact tB_Mo_registers_59 Cx t H locs ls v0 v1 v3 v4 hP hS (lv_sub hl [0, 1, 2, 3] rfl) h
  · rw [if_neg hq] at h
    refine lv_aload_n hx hb d_Mo_registers_43 rfl (lv_at hl 0 rfl) ?_
    refine ob_getI (k := 32) Cx hP ck_11 rfl w_f_Mo_242 d_Mo_registers_44 h (fun x44 h => ?_)
    refine lv_istore (lv' := [(4, .int x44), (0, .ref (b + v0)), (1, .int v1), (3, .int v3)]) hx hb d_Mo_registers_47 hl (by decide) rfl (fun ls hl => ?_)
    refine lv_aload_n hx hb d_Mo_registers_49 rfl (lv_at hl 1 rfl) ?_
    refine lv_dup hx hb d_Mo_registers_50 rfl ?_
    refine ob_getI (k := 32) Cx hP ck_11 rfl w_f_Mo_242 d_Mo_registers_51 h (fun x51 h => ?_)
    refine lv_iconst (v := 1) hx hb d_Mo_registers_54 (by decide) ?_
    refine lv_iadd hx hb d_Mo_registers_55 ?_
    refine ob_putI (k := 32) Cx hP hS ck_11 rfl rfl rfl w_f_Mo_242 d_Mo_registers_56 h (fun t56 H locs h hP hS => ?_)
    exact tB_Mo_registers_59 Cx t56 H locs ls v0 v1 v3 x44 hP hS (lv_sub hl [1, 2, 3, 0] rfl) h
theorem g_Mo_registers (v0 : Nat) (v1 : Int32) (v2 : Int32) (v3 : Int32) {t : ob_S} {out : (Int32 × ob_S)} (h : X_Mo_registers v0 v1 v2 v3 t = some out) : v0 < ob_n t ∧ ob_k t v0 = 11 := by
  unfold X_Mo_registers ob_this at h
  by_cases q : v0 < ob_n t ∧ ob_k t v0 = 11
  · exact q
  · rw [if_neg q] at h
    cases h
set_option maxHeartbeats 4000000 in
set_option maxRecDepth 100000 in
theorem c_Mo_registers {l : Launch} {b : Nat} {D : va_G} {cA : Nat → ClassId} {adK adV : Nat → Nat} (v0 : Nat) (v1 : Int32) (v2 : Int32) (v3 : Int32) {t : ob_S} {out : (Int32 × ob_S)} (h : X_Mo_registers v0 v1 v2 v3 t = some out) : Met l y_Mo_registers (Cond.code y_Mo_registers cb_Mo_registers 5 (some .boolean) :: ob_T) { frames := 1, cells := 0, slots := 0, locals := 22 } (ob_Pre b D cA adK adV [.ref (b + v0), .int v1, .int v2, .int v3] t) (ob_Qi b D cA out) 0 0 (ob_A b) := by
  refine ob_met (by decide) (Nat.le_of_ble_eq_true rfl) ?_
  intro p e R s m args below meth c ls Cx hP hS hl
  have hl : lv_has ls 5 [(0, .ref (b + v0)), (1, .int v1), (2, .int v2), (3, .int v3)] := hl
  have hx := Cx.1.1
  have hb := Cx.1.2.1
  have hg := g_Mo_registers v0 v1 v2 v3 h
  unfold X_Mo_registers ob_this at h
  rw [if_pos hg] at h
  obtain ⟨H, hH⟩ : ∃ H, H = s.heap := ⟨_, rfl⟩
  obtain ⟨locs, hL⟩ : ∃ locs : List Loc, locs = [] := ⟨_, rfl⟩
  rw [← hH] at hP
  have hS : va_S (ob_A b) s.heap H locs := by rw [hH, hL]; exact hS
  suffices hW : W p l e R s m args below meth c H locs 0 0 (MQ below (ob_Qi b D cA out) args s 0 0 (ob_A b)) (F0 m 0 ls []) by rw [hH, hL] at hW; exact hW
  refine lv_iload_n hx hb d_Mo_registers_0 rfl (lv_at hl 2 rfl) ?_
  refine lv_if_ne (tgt := 11) hx hb d_Mo_registers_1 (by decide) (fun hq => ?_) (fun hq => ?_)
  · rw [if_pos hq] at h
    exact tB_Mo_registers_11 Cx t H locs ls hP hS (lv_sub hl [] rfl) h
  · rw [if_neg (fun z => z hq)] at h
    refine lv_aload_n hx hb d_Mo_registers_4 rfl (lv_at hl 0 rfl) ?_
    refine ob_getI (k := 53) Cx hP ck_11 rfl w_f_Mo_166 d_Mo_registers_5 h (fun x5 h => ?_)
    refine lv_if_eq (tgt := 13) hx hb d_Mo_registers_8 (by decide) (fun hq => ?_) (fun hq => ?_)
    · rw [if_pos hq] at h
      refine lv_aload_n hx hb d_Mo_registers_13 rfl (lv_at hl 0 rfl) ?_
      refine lv_aload_n hx hb d_Mo_registers_14 rfl (lv_at hl 0 rfl) ?_
      refine ob_getI (k := 52) Cx hP ck_11 rfl w_f_Mo_188 d_Mo_registers_15 h (fun x15 h => ?_)
      refine ob_cVi (nA := 1) (As := [.int x15]) (rest := []) Cx hl.1 hP hS (fun o ho => c_Mo_watcherOf v0 x15 ho) (fun o ho => g_Mo_watcherOf v0 x15 ho) (by decide) (rfl : ob_cl[11]? = _) mv_Mo_watcherOf w_m_Mo_254 rfl (by decide +kernel) ⟨rfl, rfl⟩ ⟨by decide, by decide⟩ (Nat.le_of_ble_eq_true rfl) rfl d_Mo_registers_18 h (fun x18 t18 H locs h hP hS => ?_)
      refine lv_istore (lv' := [(4, .int x18), (0, .ref (b + v0)), (1, .int v1), (2, .int v2), (3, .int v3)]) hx hb d_Mo_registers_21 hl (by decide) rfl (fun ls hl => ?_)
      refine lv_iload hx hb d_Mo_registers_23 (lv_at hl 0 rfl) ?_
      refine lv_if_ge (tgt := 38) hx hb d_Mo_registers_25 (by decide) (fun hq => ?_) (fun hq => ?_)
      · rw [if_pos hq] at h
        exact tB_Mo_registers_38 Cx t18 H locs ls v0 v1 v3 x18 hP hS (lv_sub hl [1, 2, 4, 0] rfl) h
      · rw [if_neg hq] at h
        refine lv_aload_n hx hb d_Mo_registers_28 rfl (lv_at hl 1 rfl) ?_
        refine ob_getI (k := 32) Cx hP ck_11 rfl w_f_Mo_242 d_Mo_registers_29 h (fun x29 h => ?_)
        refine lv_iconst (v := 2) hx hb d_Mo_registers_32 (by decide) ?_
        refine lv_icmp_ne (tgt := 38) hx hb d_Mo_registers_33 (by decide) (fun hq => ?_) (fun hq => ?_)
        · rw [if_pos hq] at h
          exact tB_Mo_registers_38 Cx t18 H locs ls v0 v1 v3 x18 hP hS (lv_sub hl [1, 2, 4, 0] rfl) h
        · rw [if_neg (fun z => z hq)] at h
          refine lv_iconst (v := 0) hx hb d_Mo_registers_36 (by decide) ?_
          exact ob_zret Cx hP hS d_Mo_registers_37 h
    · rw [if_neg hq] at h
      exact tB_Mo_registers_11 Cx t H locs ls hP hS (lv_sub hl [] rfl) h

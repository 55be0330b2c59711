set_option maxHeartbeats 4000000 in
set_option maxRecDepth 100000 in
theorem tB_Mo_read_51 {p : Program} {l : Launch} {e : Env} {R : Room} {s : State} {m : MethodId} {args : Array Value} {below : List Frame} {meth : Method} {c : Code} {b : Nat} {D : va_G} {cA : Nat → ClassId} {adK adV : Nat → Nat} {out : (Int32 × ob_S)} (Cx : ob_C p R s m args meth c cb_Mo_read 2 "ObservedBlocksModel" (some .boolean) b D cA adK adV 2 52) : ∀ (t : ob_S) (H : Heap) (locs : List Loc) (ls : Array Slot), ob_H b D cA t H → va_S (ob_A b) s.heap H locs → lv_has ls 2 [] → B_Mo_read_51 t = some out → W p l e R s m args below meth c H locs 0 0 (MQ below (ob_Qi b D cA out) args s 0 0 (ob_A b)) (F0 m 51 ls []) := by
  have hx := Cx.1.1
  have hb := Cx.1.2.1
  intro t H locs ls  hP hS hl h
  unfold B_Mo_read_51 at h
  refine lv_iconst (v := 0) hx hb d_Mo_read_51 (by decide) ?_
  exact ob_zret Cx hP hS d_Mo_read_52 h
set_option maxHeartbeats 4000000 in
set_option maxRecDepth 100000 in
theorem tB_Mo_read_130 {p : Program} {l : Launch} {e : Env} {R : Room} {s : State} {m : MethodId} {args : Array Value} {below : List Frame} {meth : Method} {c : Code} {b : Nat} {D : va_G} {cA : Nat → ClassId} {adK adV : Nat → Nat} {out : (Int32 × ob_S)} (Cx : ob_C p R s m args meth c cb_Mo_read 2 "ObservedBlocksModel" (some .boolean) b D cA adK adV 2 52) : ∀ (t : ob_S) (H : Heap) (locs : List Loc) (ls : Array Slot), ob_H b D cA t H → va_S (ob_A b) s.heap H locs → lv_has ls 2 [] → B_Mo_read_130 t = some out → W p l e R s m args below meth c H locs 0 0 (MQ below (ob_Qi b D cA out) args s 0 0 (ob_A b)) (F0 m 130 ls []) := by
  have hx := Cx.1.1
  have hb := Cx.1.2.1
  intro t H locs ls  hP hS hl h
  unfold B_Mo_read_130 at h
  refine lv_iconst (v := 0) hx hb d_Mo_read_130 (by decide) ?_
  exact ob_zret Cx hP hS d_Mo_read_131 h
set_option maxHeartbeats 4000000 in
set_option maxRecDepth 100000 in
theorem tB_Mo_read_153 {p : Program} {l : Launch} {e : Env} {R : Room} {s : State} {m : MethodId} {args : Array Value} {below : List Frame} {meth : Method} {c : Code} {b : Nat} {D : va_G} {cA : Nat → ClassId} {adK adV : Nat → Nat} {out : (Int32 × ob_S)} (Cx : ob_C p R s m args meth c cb_Mo_read 2 "ObservedBlocksModel" (some .boolean) b D cA adK adV 2 52) : ∀ (t : ob_S) (H : Heap) (locs : List Loc) (ls : Array Slot), ob_H b D cA t H → va_S (ob_A b) s.heap H locs → lv_has ls 2 [] → B_Mo_read_153 t = some out → W p l e R s m args below meth c H locs 0 0 (MQ below (ob_Qi b D cA out) args s 0 0 (ob_A b)) (F0 m 153 ls []) := by
  have hx := Cx.1.1
  have hb := Cx.1.2.1
  intro t H locs ls  hP hS hl h
  unfold B_Mo_read_153 at h
  refine lv_iconst (v := 0) hx hb d_Mo_read_153 (by decide) ?_
  exact ob_zret Cx hP hS d_Mo_read_154 h
set_option maxHeartbeats 4000000 in
set_option maxRecDepth 100000 in
theorem tB_Mo_read_224 {p : Program} {l : Launch} {e : Env} {R : Room} {s : State} {m : MethodId} {args : Array Value} {below : List Frame} {meth : Method} {c : Code} {b : Nat} {D : va_G} {cA : Nat → ClassId} {adK adV : Nat → Nat} {out : (Int32 × ob_S)} (Cx : ob_C p R s m args meth c cb_Mo_read 2 "ObservedBlocksModel" (some .boolean) b D cA adK adV 2 52) : ∀ (t : ob_S) (H : Heap) (locs : List Loc) (ls : Array Slot), ob_H b D cA t H → va_S (ob_A b) s.heap H locs → lv_has ls 2 [] → B_Mo_read_224 t = some out → W p l e R s m args below meth c H locs 0 0 (MQ below (ob_Qi b D cA out) args s 0 0 (ob_A b)) (F0 m 224 ls []) := by
  have hx := Cx.1.1
  have hb := Cx.1.2.1
  intro t H locs ls  hP hS hl h
  unfold B_Mo_read_224 at h
  refine lv_iconst (v := 0) hx hb d_Mo_read_224 (by decide) ?_
  exact ob_zret Cx hP hS d_Mo_read_225 h
theorem g_Mo_read (v0 : Nat) {t : ob_S} {out : (Int32 × ob_S)} (h : X_Mo_read v0 t = some out) : v0 < ob_n t ∧ ob_k t v0 = 11 := by
  unfold X_Mo_read ob_this at h
  by_cases q : v0 < ob_n t ∧ ob_k t v0 = 11
  · exact q
  · rw [if_neg q] at h
    cases h
set_option maxHeartbeats 4000000 in
set_option maxRecDepth 100000 in
theorem c_Mo_read {l : Launch} {b : Nat} {D : va_G} {cA : Nat → ClassId} {adK adV : Nat → Nat} (v0 : Nat) {t : ob_S} {out : (Int32 × ob_S)} (h : X_Mo_read v0 t = some out) : Met l y_Mo_read (Cond.code y_Mo_read cb_Mo_read 2 (some .boolean) :: ob_T) { frames := 2, cells := 0, slots := 0, locals := 52 } (ob_Pre b D cA adK adV [.ref (b + v0)] t) (ob_Qi b D cA out) 0 0 (ob_A b) := by
  refine ob_met (by decide) (Nat.le_of_ble_eq_true rfl) ?_
  intro p e R s m args below meth c ls Cx hP hS hl
  have hl : lv_has ls 2 [(0, .ref (b + v0))] := hl
  have hx := Cx.1.1
  have hb := Cx.1.2.1
  have hg := g_Mo_read v0 h
  unfold X_Mo_read ob_this at h
  rw [if_pos hg] at h
  obtain ⟨H, hH⟩ : ∃ H, H = s.heap := ⟨_, rfl⟩
  obtain ⟨locs, hL⟩ : ∃ locs : List Loc, locs = [] := ⟨_, rfl⟩
  rw [← hH] at hP
  have hS : va_S (ob_A b) s.heap H locs := by rw [hH, hL]; exact hS
  suffices hW : W p l e R s m args below meth c H locs 0 0 (MQ below (ob_Qi b D cA out) args s 0 0 (ob_A b)) (F0 m 0 ls []) by rw [hH, hL] at hW; exact hW
  refine lv_aload_n hx hb d_Mo_read_0 rfl (lv_at hl 0 rfl) ?_
  refine lv_iconst (v := -1) hx hb d_Mo_read_1 (by decide) ?_
  refine ob_putI (k := 53) Cx hP hS ck_11 rfl rfl rfl w_f_Mo_166 d_Mo_read_2 h (fun t2 H locs h hP hS => ?_)
  refine lv_aload_n hx hb d_Mo_read_5 rfl (lv_at hl 0 rfl) ?_
  refine lv_iconst (v := -1) hx hb d_Mo_read_6 (by decide) ?_
  refine ob_putI (k := 57) Cx hP hS ck_11 rfl rfl rfl w_f_Mo_169 d_Mo_read_7 h (fun t7 H locs h hP hS => ?_)
  refine lv_aload_n hx hb d_Mo_read_10 rfl (lv_at hl 0 rfl) ?_
  refine lv_iconst (v := -1) hx hb d_Mo_read_11 (by decide) ?_
  refine ob_putI (k := 58) Cx hP hS ck_11 rfl rfl rfl w_f_Mo_172 d_Mo_read_12 h (fun t12 H locs h hP hS => ?_)
  refine lv_aload_n hx hb d_Mo_read_15 rfl (lv_at hl 0 rfl) ?_
  refine lv_iconst (v := 0) hx hb d_Mo_read_16 (by decide) ?_
  refine ob_putI (k := 54) Cx hP hS ck_11 rfl rfl rfl w_f_Mo_178 d_Mo_read_17 h (fun t17 H locs h hP hS => ?_)
  refine lv_aload_n hx hb d_Mo_read_20 rfl (lv_at hl 0 rfl) ?_
  refine lv_iconst (v := 0) hx hb d_Mo_read_21 (by decide) ?_
  refine ob_putI (k := 60) Cx hP hS ck_11 rfl rfl rfl w_f_Mo_185 d_Mo_read_22 h (fun t22 H locs h hP hS => ?_)
  refine lv_aload_n hx hb d_Mo_read_25 rfl (lv_at hl 0 rfl) ?_
  refine lv_iconst (v := -1) hx hb d_Mo_read_26 (by decide) ?_
  refine ob_putI (k := 52) Cx hP hS ck_11 rfl rfl rfl w_f_Mo_188 d_Mo_read_27 h (fun t27 H locs h hP hS => ?_)
  refine lv_aload_n hx hb d_Mo_read_30 rfl (lv_at hl 0 rfl) ?_
  refine ob_getI (k := 48) Cx hP ck_11 rfl w_f_Mo_175 d_Mo_read_31 h (fun x31 h => ?_)
  refine lv_iconst (v := 4) hx hb d_Mo_read_34 (by decide) ?_
  refine lv_icmp_lt (tgt := 51) hx hb d_Mo_read_35 (by decide) (fun hq => ?_) (fun hq => ?_)
  · rw [if_pos hq] at h
    exact tB_Mo_read_51 Cx t27 H locs ls hP hS (lv_sub hl [] rfl) h
  · rw [if_neg hq] at h
    refine lv_aload_n hx hb d_Mo_read_38 rfl (lv_at hl 0 rfl) ?_
    refine ob_getR (k := 47) Cx hP ck_11 rfl w_f_Mo_129 d_Mo_read_39 h (fun n39 h => ?_)
    refine lv_iconst (v := 0) hx hb d_Mo_read_42 (by decide) ?_
    refine ob_aldI Cx hP d_Mo_read_43 h (fun x43 h => ?_)
    refine lv_bipush (v := 64) hx hb d_Mo_read_44 (by decide) ?_
    refine lv_idiv hx hb d_Mo_read_46 (by decide) ?_
    refine lv_iconst (v := 1) hx hb d_Mo_read_47 (by decide) ?_
    refine lv_icmp_eq (tgt := 53) hx hb d_Mo_read_48 (by decide) (fun hq => ?_) (fun hq => ?_)
    · rw [if_pos hq] at h
      refine lv_aload_n hx hb d_Mo_read_53 rfl (lv_at hl 0 rfl) ?_
      refine lv_aload_n hx hb d_Mo_read_54 rfl (lv_at hl 0 rfl) ?_
      refine ob_getR (k := 47) Cx hP ck_11 rfl w_f_Mo_129 d_Mo_read_55 h (fun n55 h => ?_)
      refine lv_iconst (v := 0) hx hb d_Mo_read_58 (by decide) ?_
      refine ob_aldI Cx hP d_Mo_read_59 h (fun x59 h => ?_)
      refine lv_bipush (v := 16) hx hb d_Mo_read_60 (by decide) ?_
      refine lv_idiv hx hb d_Mo_read_62 (by decide) ?_
      refine lv_iconst (v := 4) hx hb d_Mo_read_63 (by decide) ?_
      refine lv_irem hx hb d_Mo_read_64 (by decide) ?_
      refine ob_putI (k := 49) Cx hP hS ck_11 rfl rfl rfl w_f_Mo_191 d_Mo_read_65 h (fun t65 H locs h hP hS => ?_)
      refine lv_aload_n hx hb d_Mo_read_68 rfl (lv_at hl 0 rfl) ?_
      refine lv_aload_n hx hb d_Mo_read_69 rfl (lv_at hl 0 rfl) ?_
      refine ob_getR (k := 47) Cx hP ck_11 rfl w_f_Mo_129 d_Mo_read_70 h (fun n70 h => ?_)
      refine lv_iconst (v := 1) hx hb d_Mo_read_73 (by decide) ?_
      refine ob_aldI Cx hP d_Mo_read_74 h (fun x74 h => ?_)
      refine ob_putI (k := 50) Cx hP hS ck_11 rfl rfl rfl w_f_Mo_194 d_Mo_read_75 h (fun t75 H locs h hP hS => ?_)
      refine lv_aload_n hx hb d_Mo_read_78 rfl (lv_at hl 0 rfl) ?_
      refine lv_sipush (v := 256) hx hb d_Mo_read_79 (by decide) ?_
      refine lv_aload_n hx hb d_Mo_read_82 rfl (lv_at hl 0 rfl) ?_
      refine ob_getR (k := 47) Cx hP ck_11 rfl w_f_Mo_129 d_Mo_read_83 h (fun n83 h => ?_)
      refine lv_iconst (v := 2) hx hb d_Mo_read_86 (by decide) ?_
      refine ob_aldI Cx hP d_Mo_read_87 h (fun x87 h => ?_)
      refine lv_imul hx hb d_Mo_read_88 ?_
      refine lv_aload_n hx hb d_Mo_read_89 rfl (lv_at hl 0 rfl) ?_
      refine ob_getR (k := 47) Cx hP ck_11 rfl w_f_Mo_129 d_Mo_read_90 h (fun n90 h => ?_)
      refine lv_iconst (v := 3) hx hb d_Mo_read_93 (by decide) ?_
      refine ob_aldI Cx hP d_Mo_read_94 h (fun x94 h => ?_)
      refine lv_iadd hx hb d_Mo_read_95 ?_
      refine ob_putI (k := 51) Cx hP hS ck_11 rfl rfl rfl w_f_Mo_197 d_Mo_read_96 h (fun t96 H locs h hP hS => ?_)
      refine lv_aload_n hx hb d_Mo_read_99 rfl (lv_at hl 0 rfl) ?_
      refine ob_getI (k := 50) Cx hP ck_11 rfl w_f_Mo_194 d_Mo_read_100 h (fun x100 h => ?_)
      refine lv_if_ne (tgt := 132) hx hb d_Mo_read_103 (by decide) (fun hq => ?_) (fun hq => ?_)
      · rw [if_pos hq] at h
        refine lv_aload_n hx hb d_Mo_read_132 rfl (lv_at hl 0 rfl) ?_
        refine ob_getR (k := 47) Cx hP ck_11 rfl w_f_Mo_129 d_Mo_read_133 h (fun n133 h => ?_)
        refine lv_iconst (v := 0) hx hb d_Mo_read_136 (by decide) ?_
        refine ob_aldI Cx hP d_Mo_read_137 h (fun x137 h => ?_)
        refine lv_bipush (v := 16) hx hb d_Mo_read_138 (by decide) ?_
        refine lv_irem hx hb d_Mo_read_140 (by decide) ?_
        refine lv_iconst (v := 1) hx hb d_Mo_read_141 (by decide) ?_
        refine lv_icmp_ne (tgt := 153) hx hb d_Mo_read_142 (by decide) (fun hq => ?_) (fun hq => ?_)
        · rw [if_pos hq] at h
          exact tB_Mo_read_153 Cx t96 H locs ls hP hS (lv_sub hl [] rfl) h
        · rw [if_neg (fun z => z hq)] at h
          refine lv_aload_n hx hb d_Mo_read_145 rfl (lv_at hl 0 rfl) ?_
          refine ob_getI (k := 48) Cx hP ck_11 rfl w_f_Mo_175 d_Mo_read_146 h (fun x146 h => ?_)
          refine lv_iconst (v := 5) hx hb d_Mo_read_149 (by decide) ?_
          refine lv_icmp_ge (tgt := 155) hx hb d_Mo_read_150 (by decide) (fun hq => ?_) (fun hq => ?_)
          · rw [if_pos hq] at h
            refine lv_aload_n hx hb d_Mo_read_155 rfl (lv_at hl 0 rfl) ?_
            refine lv_aload_n hx hb d_Mo_read_156 rfl (lv_at hl 0 rfl) ?_
            refine ob_getR (k := 47) Cx hP ck_11 rfl w_f_Mo_129 d_Mo_read_157 h (fun n157 h => ?_)
            refine lv_iconst (v := 4) hx hb d_Mo_read_160 (by decide) ?_
            refine ob_aldI Cx hP d_Mo_read_161 h (fun x161 h => ?_)
            refine ob_putI (k := 52) Cx hP hS ck_11 rfl rfl rfl w_f_Mo_188 d_Mo_read_162 h (fun t162 H locs h hP hS => ?_)
            refine lv_aload_n hx hb d_Mo_read_165 rfl (lv_at hl 0 rfl) ?_
            refine lv_iconst (v := 5) hx hb d_Mo_read_166 (by decide) ?_
            refine ob_cVi (nA := 1) (As := [.int (5 : Int32)]) (rest := []) Cx hl.1 hP hS (fun o ho => c_Mo_readOptions v0 (5 : Int32) ho) (fun o ho => g_Mo_readOptions v0 (5 : Int32) ho) (by decide) (rfl : ob_cl[11]? = _) mv_Mo_readOptions w_m_Mo_200 rfl (by decide +kernel) ⟨rfl, rfl⟩ ⟨by decide, by decide⟩ (Nat.le_of_ble_eq_true rfl) rfl d_Mo_read_167 h (fun x167 t167 H locs h hP hS => ?_)
            refine lv_istore_n (lv' := [(1, .int x167), (0, .ref (b + v0))]) hx hb d_Mo_read_170 rfl hl (by decide) rfl (fun ls hl => ?_)
            refine lv_iload_n hx hb d_Mo_read_171 rfl (lv_at hl 0 rfl) ?_
            refine lv_if_ge (tgt := 177) hx hb d_Mo_read_172 (by decide) (fun hq => ?_) (fun hq => ?_)
            · rw [if_pos hq] at h
              refine lv_iload_n hx hb d_Mo_read_177 rfl (lv_at hl 0 rfl) ?_
              refine lv_aload_n hx hb d_Mo_read_178 rfl (lv_at hl 1 rfl) ?_
              refine ob_getI (k := 48) Cx hP ck_11 rfl w_f_Mo_175 d_Mo_read_179 h (fun x179 h => ?_)
              refine lv_icmp_ge (tgt := 226) hx hb d_Mo_read_182 (by decide) (fun hq => ?_) (fun hq => ?_)
              · rw [if_pos hq] at h
                refine lv_iconst (v := 1) hx hb d_Mo_read_226 (by decide) ?_
                exact ob_zret Cx hP hS d_Mo_read_227 h
              · rw [if_neg hq] at h
                refine lv_aload_n hx hb d_Mo_read_185 rfl (lv_at hl 1 rfl) ?_
                refine lv_iload_n hx hb d_Mo_read_186 rfl (lv_at hl 0 rfl) ?_
                refine lv_iconst (v := 1) hx hb d_Mo_read_187 (by decide) ?_
                refine lv_iadd hx hb d_Mo_read_188 ?_
                refine ob_putI (k := 59) Cx hP hS ck_11 rfl rfl rfl w_f_Mo_203 d_Mo_read_189 h (fun t189 H locs h hP hS => ?_)
                refine lv_aload_n hx hb d_Mo_read_192 rfl (lv_at hl 1 rfl) ?_
                refine lv_aload_n hx hb d_Mo_read_193 rfl (lv_at hl 1 rfl) ?_
                refine ob_getI (k := 48) Cx hP ck_11 rfl w_f_Mo_175 d_Mo_read_194 h (fun x194 h => ?_)
                refine lv_iload_n hx hb d_Mo_read_197 rfl (lv_at hl 0 rfl) ?_
                refine lv_isub hx hb d_Mo_read_198 ?_
                refine lv_iconst (v := 1) hx hb d_Mo_read_199 (by decide) ?_
                refine lv_isub hx hb d_Mo_read_200 ?_
                refine ob_putI (k := 60) Cx hP hS ck_11 rfl rfl rfl w_f_Mo_185 d_Mo_read_201 h (fun t201 H locs h hP hS => ?_)
                refine lv_aload_n hx hb d_Mo_read_204 rfl (lv_at hl 1 rfl) ?_
                refine ob_getI (k := 60) Cx hP ck_11 rfl w_f_Mo_185 d_Mo_read_205 h (fun x205 h => ?_)
                refine lv_if_le (tgt := 224) hx hb d_Mo_read_208 (by decide) (fun hq => ?_) (fun hq => ?_)
                · rw [if_pos hq] at h
                  exact tB_Mo_read_224 Cx t201 H locs ls hP hS (lv_sub hl [] rfl) h
                · rw [if_neg hq] at h
                  refine lv_aload_n hx hb d_Mo_read_211 rfl (lv_at hl 1 rfl) ?_
                  refine ob_getI (k := 60) Cx hP ck_11 rfl w_f_Mo_185 d_Mo_read_212 h (fun x212 h => ?_)
                  refine lv_bipush (v := 33) hx hb d_Mo_read_215 (by decide) ?_
                  refine lv_icmp_ge (tgt := 224) hx hb d_Mo_read_217 (by decide) (fun hq => ?_) (fun hq => ?_)
                  · rw [if_pos hq] at h
                    exact tB_Mo_read_224 Cx t201 H locs ls hP hS (lv_sub hl [] rfl) h
                  · rw [if_neg hq] at h
                    refine lv_iconst (v := 1) hx hb d_Mo_read_220 (by decide) ?_
                    refine lv_goto (tgt := 225) hx hb d_Mo_read_221 (by decide) ?_
                    exact ob_zret Cx hP hS d_Mo_read_225 h
            · rw [if_neg hq] at h
              refine lv_iconst (v := 0) hx hb d_Mo_read_175 (by decide) ?_
              exact ob_zret Cx hP hS d_Mo_read_176 h
          · rw [if_neg hq] at h
            exact tB_Mo_read_153 Cx t96 H locs ls hP hS (lv_sub hl [] rfl) h
      · rw [if_neg (fun z => z hq)] at h
        refine lv_aload_n hx hb d_Mo_read_106 rfl (lv_at hl 0 rfl) ?_
        refine ob_getR (k := 47) Cx hP ck_11 rfl w_f_Mo_129 d_Mo_read_107 h (fun n107 h => ?_)
        refine lv_iconst (v := 0) hx hb d_Mo_read_110 (by decide) ?_
        refine ob_aldI Cx hP d_Mo_read_111 h (fun x111 h => ?_)
        refine lv_bipush (v := 16) hx hb d_Mo_read_112 (by decide) ?_
        refine lv_irem hx hb d_Mo_read_114 (by decide) ?_
        refine lv_if_ne (tgt := 130) hx hb d_Mo_read_115 (by decide) (fun hq => ?_) (fun hq => ?_)
        · rw [if_pos hq] at h
          exact tB_Mo_read_130 Cx t96 H locs ls hP hS (lv_sub hl [] rfl) h
        · rw [if_neg (fun z => z hq)] at h
          refine lv_aload_n hx hb d_Mo_read_118 rfl (lv_at hl 0 rfl) ?_
          refine ob_getI (k := 48) Cx hP ck_11 rfl w_f_Mo_175 d_Mo_read_119 h (fun x119 h => ?_)
          refine lv_iconst (v := 4) hx hb d_Mo_read_122 (by decide) ?_
          refine lv_icmp_ne (tgt := 130) hx hb d_Mo_read_123 (by decide) (fun hq => ?_) (fun hq => ?_)
          · rw [if_pos hq] at h
            exact tB_Mo_read_130 Cx t96 H locs ls hP hS (lv_sub hl [] rfl) h
          · rw [if_neg (fun z => z hq)] at h
            refine lv_iconst (v := 1) hx hb d_Mo_read_126 (by decide) ?_
            refine lv_goto (tgt := 131) hx hb d_Mo_read_127 (by decide) ?_
            exact ob_zret Cx hP hS d_Mo_read_131 h
    · rw [if_neg hq] at h
      exact tB_Mo_read_51 Cx t27 H locs ls hP hS (lv_sub hl [] rfl) h
set_option maxHeartbeats 4000000 in
set_option maxRecDepth 100000 in
theorem tB_Mo_segment_45 {p : Program} {l : Launch} {e : Env} {R : Room} {s : State} {m : MethodId} {args : Array Value} {below : List Frame} {meth : Method} {c : Code} {b : Nat} {D : va_G} {cA : Nat → ClassId} {adK adV : Nat → Nat} {out : (Int32 × ob_S)} (Cx : ob_C p R s m args meth c cb_Mo_segment 5 "ObservedBlocksModel" (some .boolean) b D cA adK adV 0 0) : ∀ (t : ob_S) (H : Heap) (locs : List Loc) (ls : Array Slot), ob_H b D cA t H → va_S (ob_A b) s.heap H locs → lv_has ls 5 [] → B_Mo_segment_45 t = some out → W p l e R s m args below meth c H locs 0 0 (MQ below (ob_Qi b D cA out) args s 0 0 (ob_A b)) (F0 m 45 ls []) := by
  have hx := Cx.1.1
  have hb := Cx.1.2.1
  intro t H locs ls  hP hS hl h
  unfold B_Mo_segment_45 at h
  refine lv_iconst (v := 0) hx hb d_Mo_segment_45 (by decide) ?_
  refine lv_goto (tgt := 86) hx hb d_Mo_segment_46 (by decide) ?_
  exact ob_zret Cx hP hS d_Mo_segment_86 h
set_option maxHeartbeats 4000000 in
set_option maxRecDepth 100000 in
theorem tB_Mo_segment_85 {p : Program} {l : Launch} {e : Env} {R : Room} {s : State} {m : MethodId} {args : Array Value} {below : List Frame} {meth : Method} {c : Code} {b : Nat} {D : va_G} {cA : Nat → ClassId} {adK adV : Nat → Nat} {out : (Int32 × ob_S)} (Cx : ob_C p R s m args meth c cb_Mo_segment 5 "ObservedBlocksModel" (some .boolean) b D cA adK adV 0 0) : ∀ (t : ob_S) (H : Heap) (locs : List Loc) (ls : Array Slot), ob_H b D cA t H → va_S (ob_A b) s.heap H locs → lv_has ls 5 [] → B_Mo_segment_85 t = some out → W p l e R s m args below meth c H locs 0 0 (MQ below (ob_Qi b D cA out) args s 0 0 (ob_A b)) (F0 m 85 ls []) := by
  have hx := Cx.1.1
  have hb := Cx.1.2.1
  intro t H locs ls  hP hS hl h
  unfold B_Mo_segment_85 at h
  refine lv_iconst (v := 0) hx hb d_Mo_segment_85 (by decide) ?_
  exact ob_zret Cx hP hS d_Mo_segment_86 h
set_option maxHeartbeats 4000000 in
set_option maxRecDepth 100000 in
theorem tB_Mo_segment_20 {p : Program} {l : Launch} {e : Env} {R : Room} {s : State} {m : MethodId} {args : Array Value} {below : List Frame} {meth : Method} {c : Code} {b : Nat} {D : va_G} {cA : Nat → ClassId} {adK adV : Nat → Nat} {out : (Int32 × ob_S)} (Cx : ob_C p R s m args meth c cb_Mo_segment 5 "ObservedBlocksModel" (some .boolean) b D cA adK adV 0 0) : ∀ (t : ob_S) (H : Heap) (locs : List Loc) (ls : Array Slot) (v0 : Nat) (v1 : Int32) (v3 : Int32) (s0 : Int32), ob_H b D cA t H → va_S (ob_A b) s.heap H locs → lv_has ls 5 [(0, .ref (b + v0)), (1, .int v1), (3, .int v3)] → B_Mo_segment_20 v0 v1 v3 s0 t = some out → W p l e R s m args below meth c H locs 0 0 (MQ below (ob_Qi b D cA out) args s 0 0 (ob_A b)) (F0 m 20 ls [.int s0]) := by
  have hx := Cx.1.1
  have hb := Cx.1.2.1
  intro t H locs ls v0 v1 v3 s0 hP hS hl h
  unfold B_Mo_segment_20 at h
  refine lv_istore (lv' := [(4, .int s0), (0, .ref (b + v0)), (1, .int v1), (3, .int v3)]) hx hb d_Mo_segment_20 hl (by decide) rfl (fun ls hl => ?_)
  refine lv_iload_n hx hb d_Mo_segment_22 rfl (lv_at hl 3 rfl) ?_
  refine lv_if_ge (tgt := 49) hx hb d_Mo_segment_23 (by decide) (fun hq => ?_) (fun hq => ?_)
  · rw [if_pos hq] at h
    refine lv_aload_n hx hb d_Mo_segment_49 rfl (lv_at hl 1 rfl) ?_
    refine ob_getR (k := 56) Cx hP ck_11 rfl w_f_Mo_135 d_Mo_segment_50 h (fun n50 h => ?_)
    refine lv_iload_n hx hb d_Mo_segment_53 rfl (lv_at hl 2 rfl) ?_
    refine ob_aldI Cx hP d_Mo_segment_54 h (fun x54 h => ?_)
    refine lv_iconst (v := 2) hx hb d_Mo_segment_55 (by decide) ?_
    refine lv_icmp_ne (tgt := 85) hx hb d_Mo_segment_56 (by decide) (fun hq => ?_) (fun hq => ?_)
    · rw [if_pos hq] at h
      exact tB_Mo_segment_85 Cx t H locs ls hP hS (lv_sub hl [] rfl) h
    · rw [if_neg (fun z => z hq)] at h
      refine lv_iload hx hb d_Mo_segment_59 (lv_at hl 0 rfl) ?_
      refine lv_if_eq (tgt := 85) hx hb d_Mo_segment_61 (by decide) (fun hq => ?_) (fun hq => ?_)
      · rw [if_pos hq] at h
        exact tB_Mo_segment_85 Cx t H locs ls hP hS (lv_sub hl [] rfl) h
      · rw [if_neg hq] at h
        refine lv_aload_n hx hb d_Mo_segment_64 rfl (lv_at hl 1 rfl) ?_
        refine ob_getR (k := 47) Cx hP ck_11 rfl w_f_Mo_129 d_Mo_segment_65 h (fun n65 h => ?_)
        refine lv_aload_n hx hb d_Mo_segment_68 rfl (lv_at hl 1 rfl) ?_
        refine ob_getR (k := 55) Cx hP ck_11 rfl w_f_Mo_132 d_Mo_segment_69 h (fun n69 h => ?_)
        refine lv_iload_n hx hb d_Mo_segment_72 rfl (lv_at hl 2 rfl) ?_
        refine ob_aldI Cx hP d_Mo_segment_73 h (fun x73 h => ?_)
        refine lv_iconst (v := 1) hx hb d_Mo_segment_74 (by decide) ?_
        refine lv_iadd hx hb d_Mo_segment_75 ?_
        refine ob_aldI Cx hP d_Mo_segment_76 h (fun x76 h => ?_)
        refine lv_iload_n hx hb d_Mo_segment_77 rfl (lv_at hl 3 rfl) ?_
        refine lv_icmp_ne (tgt := 85) hx hb d_Mo_segment_78 (by decide) (fun hq => ?_) (fun hq => ?_)
        · rw [if_pos hq] at h
          exact tB_Mo_segment_85 Cx t H locs ls hP hS (lv_sub hl [] rfl) h
        · rw [if_neg (fun z => z hq)] at h
          refine lv_iconst (v := 1) hx hb d_Mo_segment_81 (by decide) ?_
          refine lv_goto (tgt := 86) hx hb d_Mo_segment_82 (by decide) ?_
          exact ob_zret Cx hP hS d_Mo_segment_86 h
  · rw [if_neg hq] at h
    refine lv_aload_n hx hb d_Mo_segment_26 rfl (lv_at hl 1 rfl) ?_
    refine ob_getR (k := 56) Cx hP ck_11 rfl w_f_Mo_135 d_Mo_segment_27 h (fun n27 h => ?_)
    refine lv_iload_n hx hb d_Mo_segment_30 rfl (lv_at hl 2 rfl) ?_
    refine ob_aldI Cx hP d_Mo_segment_31 h (fun x31 h => ?_)
    refine lv_iconst (v := 1) hx hb d_Mo_segment_32 (by decide) ?_
    refine lv_icmp_ne (tgt := 45) hx hb d_Mo_segment_33 (by decide) (fun hq => ?_) (fun hq => ?_)
    · rw [if_pos hq] at h
      exact tB_Mo_segment_45 Cx t H locs ls hP hS (lv_sub hl [] rfl) h
    · rw [if_neg (fun z => z hq)] at h
      refine lv_iload hx hb d_Mo_segment_36 (lv_at hl 0 rfl) ?_
      refine lv_if_eq (tgt := 45) hx hb d_Mo_segment_38 (by decide) (fun hq => ?_) (fun hq => ?_)
      · rw [if_pos hq] at h
        exact tB_Mo_segment_45 Cx t H locs ls hP hS (lv_sub hl [] rfl) h
      · rw [if_neg hq] at h
        refine lv_iconst (v := 1) hx hb d_Mo_segment_41 (by decide) ?_
        refine lv_goto (tgt := 86) hx hb d_Mo_segment_42 (by decide) ?_
        exact ob_zret Cx hP hS d_Mo_segment_86 h
theorem g_Mo_segment (v0 : Nat) (v1 : Int32) (v2 : Int32) (v3 : Int32) {t : ob_S} {out : (Int32 × ob_S)} (h : X_Mo_segment v0 v1 v2 v3 t = some out) : v0 < ob_n t ∧ ob_k t v0 = 11 := by
  unfold X_Mo_segment ob_this at h
  by_cases q : v0 < ob_n t ∧ ob_k t v0 = 11
  · exact q
  · rw [if_neg q] at h
    cases h
set_option maxHeartbeats 4000000 in
set_option maxRecDepth 100000 in
theorem c_Mo_segment {l : Launch} {b : Nat} {D : va_G} {cA : Nat → ClassId} {adK adV : Nat → Nat} (v0 : Nat) (v1 : Int32) (v2 : Int32) (v3 : Int32) {t : ob_S} {out : (Int32 × ob_S)} (h : X_Mo_segment v0 v1 v2 v3 t = some out) : Met l y_Mo_segment (Cond.code y_Mo_segment cb_Mo_segment 5 (some .boolean) :: ob_T) { frames := 0, cells := 0, slots := 0, locals := 0 } (ob_Pre b D cA adK adV [.ref (b + v0), .int v1, .int v2, .int v3] t) (ob_Qi b D cA out) 0 0 (ob_A b) := by
  refine ob_met (by decide) (Nat.le_of_ble_eq_true rfl) ?_
  intro p e R s m args below meth c ls Cx hP hS hl
  have hl : lv_has ls 5 [(0, .ref (b + v0)), (1, .int v1), (2, .int v2), (3, .int v3)] := hl
  have hx := Cx.1.1
  have hb := Cx.1.2.1
  have hg := g_Mo_segment v0 v1 v2 v3 h
  unfold X_Mo_segment ob_this at h
  rw [if_pos hg] at h
  obtain ⟨H, hH⟩ : ∃ H, H = s.heap := ⟨_, rfl⟩
  obtain ⟨locs, hL⟩ : ∃ locs : List Loc, locs = [] := ⟨_, rfl⟩
  rw [← hH] at hP
  have hS : va_S (ob_A b) s.heap H locs := by rw [hH, hL]; exact hS
  suffices hW : W p l e R s m args below meth c H locs 0 0 (MQ below (ob_Qi b D cA out) args s 0 0 (ob_A b)) (F0 m 0 ls []) by rw [hH, hL] at hW; exact hW
  refine lv_aload_n hx hb d_Mo_segment_0 rfl (lv_at hl 0 rfl) ?_
  refine ob_getR (k := 47) Cx hP ck_11 rfl w_f_Mo_129 d_Mo_segment_1 h (fun n1 h => ?_)
  refine lv_aload_n hx hb d_Mo_segment_4 rfl (lv_at hl 0 rfl) ?_
  refine ob_getR (k := 55) Cx hP ck_11 rfl w_f_Mo_132 d_Mo_segment_5 h (fun n5 h => ?_)
  refine lv_iload_n hx hb d_Mo_segment_8 rfl (lv_at hl 1 rfl) ?_
  refine ob_aldI Cx hP d_Mo_segment_9 h (fun x9 h => ?_)
  refine ob_aldI Cx hP d_Mo_segment_10 h (fun x10 h => ?_)
  refine lv_iload_n hx hb d_Mo_segment_11 rfl (lv_at hl 2 rfl) ?_
  refine lv_icmp_ne (tgt := 19) hx hb d_Mo_segment_12 (by decide) (fun hq => ?_) (fun hq => ?_)
  · rw [if_pos hq] at h
    refine lv_iconst (v := 0) hx hb d_Mo_segment_19 (by decide) ?_
    exact tB_Mo_segment_20 Cx t H locs ls v0 v1 v3 (0 : Int32) hP hS (lv_sub hl [0, 1, 3] rfl) h
  · rw [if_neg (fun z => z hq)] at h
    refine lv_iconst (v := 1) hx hb d_Mo_segment_15 (by decide) ?_
    refine lv_goto (tgt := 20) hx hb d_Mo_segment_16 (by decide) ?_
    exact tB_Mo_segment_20 Cx t H locs ls v0 v1 v3 (1 : Int32) hP hS (lv_sub hl [0, 1, 3] rfl) h
set_option maxHeartbeats 4000000 in
set_option maxRecDepth 100000 in
theorem tB_Mo_resource_121 {p : Program} {l : Launch} {e : Env} {R : Room} {s : State} {m : MethodId} {args : Array Value} {below : List Frame} {meth : Method} {c : Code} {b : Nat} {D : va_G} {cA : Nat → ClassId} {adK adV : Nat → Nat} {out : (Int32 × ob_S)} (Cx : ob_C p R s m args meth c cb_Mo_resource 3 "ObservedBlocksModel" (some .int) b D cA adK adV 1 24) : ∀ (t : ob_S) (H : Heap) (locs : List Loc) (ls : Array Slot), ob_H b D cA t H → va_S (ob_A b) s.heap H locs → lv_has ls 3 [] → B_Mo_resource_121 t = some out → W p l e R s m args below meth c H locs 0 0 (MQ below (ob_Qi b D cA out) args s 0 0 (ob_A b)) (F0 m 121 ls []) := by
  have hx := Cx.1.1
  have hb := Cx.1.2.1
  intro t H locs ls  hP hS hl h
  unfold B_Mo_resource_121 at h
  refine lv_iconst (v := -1) hx hb d_Mo_resource_121 (by decide) ?_
  exact ob_iret Cx hP hS d_Mo_resource_122 h
set_option maxHeartbeats 4000000 in
set_option maxRecDepth 100000 in
theorem tB_Mo_resource_102 {p : Program} {l : Launch} {e : Env} {R : Room} {s : State} {m : MethodId} {args : Array Value} {below : List Frame} {meth : Method} {c : Code} {b : Nat} {D : va_G} {cA : Nat → ClassId} {adK adV : Nat → Nat} {out : (Int32 × ob_S)} (Cx : ob_C p R s m args meth c cb_Mo_resource 3 "ObservedBlocksModel" (some .int) b D cA adK adV 1 24) : ∀ (t : ob_S) (H : Heap) (locs : List Loc) (ls : Array Slot) (v0 : Nat) (v2 : Int32), ob_H b D cA t H → va_S (ob_A b) s.heap H locs → lv_has ls 3 [(0, .ref (b + v0)), (2, .int v2)] → B_Mo_resource_102 v0 v2 t = some out → W p l e R s m args below meth c H locs 0 0 (MQ below (ob_Qi b D cA out) args s 0 0 (ob_A b)) (F0 m 102 ls []) := by
  have hx := Cx.1.1
  have hb := Cx.1.2.1
  intro t H locs ls v0 v2 hP hS hl h
  unfold B_Mo_resource_102 at h
  refine lv_iload_n hx hb d_Mo_resource_102 rfl (lv_at hl 1 rfl) ?_
  refine lv_if_eq (tgt := 121) hx hb d_Mo_resource_103 (by decide) (fun hq => ?_) (fun hq => ?_)
  · rw [if_pos hq] at h
    exact tB_Mo_resource_121 Cx t H locs ls hP hS (lv_sub hl [] rfl) h
  · rw [if_neg hq] at h
    refine lv_aload_n hx hb d_Mo_resource_106 rfl (lv_at hl 0 rfl) ?_
    refine lv_iconst (v := 1) hx hb d_Mo_resource_107 (by decide) ?_
    refine lv_bipush (v := 100) hx hb d_Mo_resource_108 (by decide) ?_
    refine lv_iconst (v := -1) hx hb d_Mo_resource_110 (by decide) ?_
    refine ob_cVi (nA := 3) (As := [.int (1 : Int32), .int (100 : Int32), .int (-1 : Int32)]) (rest := []) Cx hl.1 hP hS (fun o ho => c_Mo_segment v0 (1 : Int32) (100 : Int32) (-1 : Int32) ho) (fun o ho => g_Mo_segment v0 (1 : Int32) (100 : Int32) (-1 : Int32) ho) (by decide) (rfl : ob_cl[11]? = _) mv_Mo_segment w_m_Mo_206 rfl (by decide +kernel) ⟨rfl, rfl⟩ ⟨by decide, by decide⟩ (Nat.le_of_ble_eq_true rfl) rfl d_Mo_resource_111 h (fun x111 t111 H locs h hP hS => ?_)
    refine lv_if_eq (tgt := 121) hx hb d_Mo_resource_114 (by decide) (fun hq => ?_) (fun hq => ?_)
    · rw [if_pos hq] at h
      exact tB_Mo_resource_121 Cx t111 H locs ls hP hS (lv_sub hl [] rfl) h
    · rw [if_neg hq] at h
      refine lv_iconst (v := 3) hx hb d_Mo_resource_117 (by decide) ?_
      refine lv_goto (tgt := 122) hx hb d_Mo_resource_118 (by decide) ?_
      exact ob_iret Cx hP hS d_Mo_resource_122 h
set_option maxHeartbeats 4000000 in
set_option maxRecDepth 100000 in
theorem tB_Mo_resource_48 {p : Program} {l : Launch} {e : Env} {R : Room} {s : State} {m : MethodId} {args : Array Value} {below : List Frame} {meth : Method} {c : Code} {b : Nat} {D : va_G} {cA : Nat → ClassId} {adK adV : Nat → Nat} {out : (Int32 × ob_S)} (Cx : ob_C p R s m args meth c cb_Mo_resource 3 "ObservedBlocksModel" (some .int) b D cA adK adV 1 24) : ∀ (t : ob_S) (H : Heap) (locs : List Loc) (ls : Array Slot) (v0 : Nat) (v1 : Int32) (s0 : Int32), ob_H b D cA t H → va_S (ob_A b) s.heap H locs → lv_has ls 3 [(0, .ref (b + v0)), (1, .int v1)] → B_Mo_resource_48 v0 v1 s0 t = some out → W p l e R s m args below meth c H locs 0 0 (MQ below (ob_Qi b D cA out) args s 0 0 (ob_A b)) (F0 m 48 ls [.int s0]) := by
  have hx := Cx.1.1
  have hb := Cx.1.2.1
  intro t H locs ls v0 v1 s0 hP hS hl h
  unfold B_Mo_resource_48 at h
  refine lv_istore_n (lv' := [(2, .int s0), (0, .ref (b + v0)), (1, .int v1)]) hx hb d_Mo_resource_48 rfl hl (by decide) rfl (fun ls hl => ?_)
  refine lv_aload_n hx hb d_Mo_resource_49 rfl (lv_at hl 1 rfl) ?_
  refine ob_getI (k := 54) Cx hP ck_11 rfl w_f_Mo_178 d_Mo_resource_50 h (fun x50 h => ?_)
  refine lv_iconst (v := 1) hx hb d_Mo_resource_53 (by decide) ?_
  refine lv_icmp_ne (tgt := 75) hx hb d_Mo_resource_54 (by decide) (fun hq => ?_) (fun hq => ?_)
  · rw [if_pos hq] at h
    refine lv_aload_n hx hb d_Mo_resource_75 rfl (lv_at hl 1 rfl) ?_
    refine ob_getI (k := 54) Cx hP ck_11 rfl w_f_Mo_178 d_Mo_resource_76 h (fun x76 h => ?_)
    refine lv_iconst (v := 2) hx hb d_Mo_resource_79 (by decide) ?_
    refine lv_icmp_ne (tgt := 123) hx hb d_Mo_resource_80 (by decide) (fun hq => ?_) (fun hq => ?_)
    · rw [if_pos hq] at h
      refine lv_iconst (v := -1) hx hb d_Mo_resource_123 (by decide) ?_
      exact ob_iret Cx hP hS d_Mo_resource_124 h
    · rw [if_neg (fun z => z hq)] at h
      refine lv_iload_n hx hb d_Mo_resource_83 rfl (lv_at hl 2 rfl) ?_
      refine lv_if_eq (tgt := 102) hx hb d_Mo_resource_84 (by decide) (fun hq => ?_) (fun hq => ?_)
      · rw [if_pos hq] at h
        exact tB_Mo_resource_102 Cx t H locs ls v0 s0 hP hS (lv_sub hl [1, 0] rfl) h
      · rw [if_neg hq] at h
        refine lv_aload_n hx hb d_Mo_resource_87 rfl (lv_at hl 1 rfl) ?_
        refine lv_iconst (v := 1) hx hb d_Mo_resource_88 (by decide) ?_
        refine lv_bipush (v := 98) hx hb d_Mo_resource_89 (by decide) ?_
        refine lv_iconst (v := -1) hx hb d_Mo_resource_91 (by decide) ?_
        refine ob_cVi (nA := 3) (As := [.int (1 : Int32), .int (98 : Int32), .int (-1 : Int32)]) (rest := []) Cx hl.1 hP hS (fun o ho => c_Mo_segment v0 (1 : Int32) (98 : Int32) (-1 : Int32) ho) (fun o ho => g_Mo_segment v0 (1 : Int32) (98 : Int32) (-1 : Int32) ho) (by decide) (rfl : ob_cl[11]? = _) mv_Mo_segment w_m_Mo_206 rfl (by decide +kernel) ⟨rfl, rfl⟩ ⟨by decide, by decide⟩ (Nat.le_of_ble_eq_true rfl) rfl d_Mo_resource_92 h (fun x92 t92 H locs h hP hS => ?_)
        refine lv_if_eq (tgt := 102) hx hb d_Mo_resource_95 (by decide) (fun hq => ?_) (fun hq => ?_)
        · rw [if_pos hq] at h
          exact tB_Mo_resource_102 Cx t92 H locs ls v0 s0 hP hS (lv_sub hl [1, 0] rfl) h
        · rw [if_neg hq] at h
          refine lv_iconst (v := 1) hx hb d_Mo_resource_98 (by decide) ?_
          refine lv_goto (tgt := 122) hx hb d_Mo_resource_99 (by decide) ?_
          exact ob_iret Cx hP hS d_Mo_resource_122 h
  · rw [if_neg (fun z => z hq)] at h
    refine lv_iload_n hx hb d_Mo_resource_57 rfl (lv_at hl 2 rfl) ?_
    refine lv_if_eq (tgt := 65) hx hb d_Mo_resource_58 (by decide) (fun hq => ?_) (fun hq => ?_)
    · rw [if_pos hq] at h
      refine lv_iload_n hx hb d_Mo_resource_65 rfl (lv_at hl 0 rfl) ?_
      refine lv_if_eq (tgt := 73) hx hb d_Mo_resource_66 (by decide) (fun hq => ?_) (fun hq => ?_)
      · rw [if_pos hq] at h
        refine lv_iconst (v := -1) hx hb d_Mo_resource_73 (by decide) ?_
        exact ob_iret Cx hP hS d_Mo_resource_74 h
      · rw [if_neg hq] at h
        refine lv_iconst (v := 2) hx hb d_Mo_resource_69 (by decide) ?_
        refine lv_goto (tgt := 74) hx hb d_Mo_resource_70 (by decide) ?_
        exact ob_iret Cx hP hS d_Mo_resource_74 h
    · rw [if_neg hq] at h
      refine lv_iconst (v := 0) hx hb d_Mo_resource_61 (by decide) ?_
      refine lv_goto (tgt := 74) hx hb d_Mo_resource_62 (by decide) ?_
      exact ob_iret Cx hP hS d_Mo_resource_74 h
set_option maxHeartbeats 4000000 in
set_option maxRecDepth 100000 in
theorem tB_Mo_resource_47 {p : Program} {l : Launch} {e : Env} {R : Room} {s : State} {m : MethodId} {args : Array Value} {below : List Frame} {meth : Method} {c : Code} {b : Nat} {D : va_G} {cA : Nat → ClassId} {adK adV : Nat → Nat} {out : (Int32 × ob_S)} (Cx : ob_C p R s m args meth c cb_Mo_resource 3 "ObservedBlocksModel" (some .int) b D cA adK adV 1 24) : ∀ (t : ob_S) (H : Heap) (locs : List Loc) (ls : Array Slot) (v0 : Nat) (v1 : Int32), ob_H b D cA t H → va_S (ob_A b) s.heap H locs → lv_has ls 3 [(0, .ref (b + v0)), (1, .int v1)] → B_Mo_resource_47 v0 v1 t = some out → W p l e R s m args below meth c H locs 0 0 (MQ below (ob_Qi b D cA out) args s 0 0 (ob_A b)) (F0 m 47 ls []) := by
  have hx := Cx.1.1
  have hb := Cx.1.2.1
  intro t H locs ls v0 v1 hP hS hl h
  unfold B_Mo_resource_47 at h
  refine lv_iconst (v := 0) hx hb d_Mo_resource_47 (by decide) ?_
  exact tB_Mo_resource_48 Cx t H locs ls v0 v1 (0 : Int32) hP hS (lv_sub hl [0, 1] rfl) h
set_option maxHeartbeats 4000000 in
set_option maxRecDepth 100000 in
theorem tB_Mo_resource_23 {p : Program} {l : Launch} {e : Env} {R : Room} {s : State} {m : MethodId} {args : Array Value} {below : List Frame} {meth : Method} {c : Code} {b : Nat} {D : va_G} {cA : Nat → ClassId} {adK adV : Nat → Nat} {out : (Int32 × ob_S)} (Cx : ob_C p R s m args meth c cb_Mo_resource 3 "ObservedBlocksModel" (some .int) b D cA adK adV 1 24) : ∀ (t : ob_S) (H : Heap) (locs : List Loc) (ls : Array Slot) (v0 : Nat) (s0 : Int32), ob_H b D cA t H → va_S (ob_A b) s.heap H locs → lv_has ls 3 [(0, .ref (b + v0))] → B_Mo_resource_23 v0 s0 t = some out → W p l e R s m args below meth c H locs 0 0 (MQ below (ob_Qi b D cA out) args s 0 0 (ob_A b)) (F0 m 23 ls [.int s0]) := by
  have hx := Cx.1.1
  have hb := Cx.1.2.1
  intro t H locs ls v0 s0 hP hS hl h
  unfold B_Mo_resource_23 at h
  refine lv_istore_n (lv' := [(1, .int s0), (0, .ref (b + v0))]) hx hb d_Mo_resource_23 rfl hl (by decide) rfl (fun ls hl => ?_)
  refine lv_aload_n hx hb d_Mo_resource_24 rfl (lv_at hl 1 rfl) ?_
  refine ob_getI (k := 54) Cx hP ck_11 rfl w_f_Mo_178 d_Mo_resource_25 h (fun x25 h => ?_)
  refine lv_if_le (tgt := 47) hx hb d_Mo_resource_28 (by decide) (fun hq => ?_) (fun hq => ?_)
  · rw [if_pos hq] at h
    exact tB_Mo_resource_47 Cx t H locs ls v0 s0 hP hS (lv_sub hl [1, 0] rfl) h
  · rw [if_neg hq] at h
    refine lv_aload_n hx hb d_Mo_resource_31 rfl (lv_at hl 1 rfl) ?_
    refine lv_iconst (v := 0) hx hb d_Mo_resource_32 (by decide) ?_
    refine lv_bipush (v := 99) hx hb d_Mo_resource_33 (by decide) ?_
    refine lv_bipush (v := 99) hx hb d_Mo_resource_35 (by decide) ?_
    refine ob_cVi (nA := 3) (As := [.int (0 : Int32), .int (99 : Int32), .int (99 : Int32)]) (rest := []) Cx hl.1 hP hS (fun o ho => c_Mo_segment v0 (0 : Int32) (99 : Int32) (99 : Int32) ho) (fun o ho => g_Mo_segment v0 (0 : Int32) (99 : Int32) (99 : Int32) ho) (by decide) (rfl : ob_cl[11]? = _) mv_Mo_segment w_m_Mo_206 rfl (by decide +kernel) ⟨rfl, rfl⟩ ⟨by decide, by decide⟩ (Nat.le_of_ble_eq_true rfl) rfl d_Mo_resource_37 h (fun x37 t37 H locs h hP hS => ?_)
    refine lv_if_eq (tgt := 47) hx hb d_Mo_resource_40 (by decide) (fun hq => ?_) (fun hq => ?_)
    · rw [if_pos hq] at h
      exact tB_Mo_resource_47 Cx t37 H locs ls v0 s0 hP hS (lv_sub hl [1, 0] rfl) h
    · rw [if_neg hq] at h
      refine lv_iconst (v := 1) hx hb d_Mo_resource_43 (by decide) ?_
      refine lv_goto (tgt := 48) hx hb d_Mo_resource_44 (by decide) ?_
      exact tB_Mo_resource_48 Cx t37 H locs ls v0 s0 (1 : Int32) hP hS (lv_sub hl [1, 0] rfl) h
set_option maxHeartbeats 4000000 in
set_option maxRecDepth 100000 in
theorem tB_Mo_resource_22 {p : Program} {l : Launch} {e : Env} {R : Room} {s : State} {m : MethodId} {args : Array Value} {below : List Frame} {meth : Method} {c : Code} {b : Nat} {D : va_G} {cA : Nat → ClassId} {adK adV : Nat → Nat} {out : (Int32 × ob_S)} (Cx : ob_C p R s m args meth c cb_Mo_resource 3 "ObservedBlocksModel" (some .int) b D cA adK adV 1 24) : ∀ (t : ob_S) (H : Heap) (locs : List Loc) (ls : Array Slot) (v0 : Nat), ob_H b D cA t H → va_S (ob_A b) s.heap H locs → lv_has ls 3 [(0, .ref (b + v0))] → B_Mo_resource_22 v0 t = some out → W p l e R s m args below meth c H locs 0 0 (MQ below (ob_Qi b D cA out) args s 0 0 (ob_A b)) (F0 m 22 ls []) := by
  have hx := Cx.1.1
  have hb := Cx.1.2.1
  intro t H locs ls v0 hP hS hl h
  unfold B_Mo_resource_22 at h
  refine lv_iconst (v := 0) hx hb d_Mo_resource_22 (by decide) ?_
  exact tB_Mo_resource_23 Cx t H locs ls v0 (0 : Int32) hP hS (lv_sub hl [0] rfl) h
theorem g_Mo_resource (v0 : Nat) {t : ob_S} {out : (Int32 × ob_S)} (h : X_Mo_resource v0 t = some out) : v0 < ob_n t ∧ ob_k t v0 = 11 := by
  unfold X_Mo_resource ob_this at h
  by_cases q : v0 < ob_n t ∧ ob_k t v0 = 11
  · exact q
  · rw [if_neg q] at h
    cases h
set_option maxHeartbeats 4000000 in
set_option maxRecDepth 100000 in
theorem c_Mo_resource {l : Launch} {b : Nat} {D : va_G} {cA : Nat → ClassId} {adK adV : Nat → Nat} (v0 : Nat) {t : ob_S} {out : (Int32 × ob_S)} (h : X_Mo_resource v0 t = some out) : Met l y_Mo_resource (Cond.code y_Mo_resource cb_Mo_resource 3 (some .int) :: ob_T) { frames := 1, cells := 0, slots := 0, locals := 24 } (ob_Pre b D cA adK adV [.ref (b + v0)] t) (ob_Qi b D cA out) 0 0 (ob_A b) := by
  refine ob_met (by decide) (Nat.le_of_ble_eq_true rfl) ?_
  intro p e R s m args below meth c ls Cx hP hS hl
  have hl : lv_has ls 3 [(0, .ref (b + v0))] := hl
  have hx := Cx.1.1
  have hb := Cx.1.2.1
  have hg := g_Mo_resource v0 h
  unfold X_Mo_resource ob_this at h
  rw [if_pos hg] at h
  obtain ⟨H, hH⟩ : ∃ H, H = s.heap := ⟨_, rfl⟩
  obtain ⟨locs, hL⟩ : ∃ locs : List Loc, locs = [] := ⟨_, rfl⟩
  rw [← hH] at hP
  have hS : va_S (ob_A b) s.heap H locs := by rw [hH, hL]; exact hS
  suffices hW : W p l e R s m args below meth c H locs 0 0 (MQ below (ob_Qi b D cA out) args s 0 0 (ob_A b)) (F0 m 0 ls []) by rw [hH, hL] at hW; exact hW
  refine lv_aload_n hx hb d_Mo_resource_0 rfl (lv_at hl 0 rfl) ?_
  refine ob_getI (k := 54) Cx hP ck_11 rfl w_f_Mo_178 d_Mo_resource_1 h (fun x1 h => ?_)
  refine lv_if_le (tgt := 22) hx hb d_Mo_resource_4 (by decide) (fun hq => ?_) (fun hq => ?_)
  · rw [if_pos hq] at h
    exact tB_Mo_resource_22 Cx t H locs ls v0 hP hS (lv_sub hl [0] rfl) h
  · rw [if_neg hq] at h
    refine lv_aload_n hx hb d_Mo_resource_7 rfl (lv_at hl 0 rfl) ?_
    refine lv_iconst (v := 0) hx hb d_Mo_resource_8 (by decide) ?_
    refine lv_bipush (v := 97) hx hb d_Mo_resource_9 (by decide) ?_
    refine lv_iconst (v := -1) hx hb d_Mo_resource_11 (by decide) ?_
    refine ob_cVi (nA := 3) (As := [.int (0 : Int32), .int (97 : Int32), .int (-1 : Int32)]) (rest := []) Cx hl.1 hP hS (fun o ho => c_Mo_segment v0 (0 : Int32) (97 : Int32) (-1 : Int32) ho) (fun o ho => g_Mo_segment v0 (0 : Int32) (97 : Int32) (-1 : Int32) ho) (by decide) (rfl : ob_cl[11]? = _) mv_Mo_segment w_m_Mo_206 rfl (by decide +kernel) ⟨rfl, rfl⟩ ⟨by decide, by decide⟩ (Nat.le_of_ble_eq_true rfl) rfl d_Mo_resource_12 h (fun x12 t12 H locs h hP hS => ?_)
    refine lv_if_eq (tgt := 22) hx hb d_Mo_resource_15 (by decide) (fun hq => ?_) (fun hq => ?_)
    · rw [if_pos hq] at h
      exact tB_Mo_resource_22 Cx t12 H locs ls v0 hP hS (lv_sub hl [0] rfl) h
    · rw [if_neg hq] at h
      refine lv_iconst (v := 1) hx hb d_Mo_resource_18 (by decide) ?_
      refine lv_goto (tgt := 23) hx hb d_Mo_resource_19 (by decide) ?_
      exact tB_Mo_resource_23 Cx t12 H locs ls v0 (1 : Int32) hP hS (lv_sub hl [0] rfl) h
set_option maxHeartbeats 4000000 in
set_option maxRecDepth 100000 in
theorem tB_Mo_ask_251 {p : Program} {l : Launch} {e : Env} {R : Room} {s : State} {m : MethodId} {args : Array Value} {below : List Frame} {meth : Method} {c : Code} {b : Nat} {D : va_G} {cA : Nat → ClassId} {adK adV : Nat → Nat} {out : ob_S} (Cx : ob_C p R s m args meth c cb_Mo_ask 7 "ObservedBlocksModel" none b D cA adK adV 3 67) : ∀ (t : ob_S) (H : Heap) (locs : List Loc) (ls : Array Slot) (v0 : Nat) (v1 : Int32) (s0 : Int32) (s1 : Int32) (s2 : Nat), ob_H b D cA t H → va_S (ob_A b) s.heap H locs → lv_has ls 7 [(0, .ref (b + v0)), (1, .int v1)] → B_Mo_ask_251 v0 v1 s0 s1 s2 t = some out → W p l e R s m args below meth c H locs 0 0 (MQ below (ob_Qv b D cA out) args s 0 0 (ob_A b)) (F0 m 251 ls [.int s0, .int s1, .ref (b + s2)]) := by
  have hx := Cx.1.1
  have hb := Cx.1.2.1
  intro t H locs ls v0 v1 s0 s1 s2 hP hS hl h
  unfold B_Mo_ask_251 at h
  refine ob_astZ Cx hP hS d_Mo_ask_251 h (fun t251 H locs h hP hS => ?_)
  refine lv_aload_n hx hb d_Mo_ask_252 rfl (lv_at hl 0 rfl) ?_
  refine ob_getR (k := 14) Cx hP ck_11 rfl w_f_Mo_48 d_Mo_ask_253 h (fun n253 h => ?_)
  refine lv_iload_n hx hb d_Mo_ask_256 rfl (lv_at hl 1 rfl) ?_
  refine lv_iconst (v := 1) hx hb d_Mo_ask_257 (by decide) ?_
  refine ob_astI Cx hP hS d_Mo_ask_258 h (fun t258 H locs h hP hS => ?_)
  refine lv_aload_n hx hb d_Mo_ask_259 rfl (lv_at hl 0 rfl) ?_
  refine lv_iload_n hx hb d_Mo_ask_260 rfl (lv_at hl 1 rfl) ?_
  refine lv_aload_n hx hb d_Mo_ask_261 rfl (lv_at hl 0 rfl) ?_
  refine ob_getI (k := 5) Cx hP ck_11 rfl w_f_Mo_19 d_Mo_ask_262 h (fun x262 h => ?_)
  refine ob_cVv (nA := 2) (As := [.int v1, .int x262]) (rest := []) Cx hl.1 hP hS (fun o ho => c_Mo_hold v0 v1 x262 ho) (fun o ho => g_Mo_hold v0 v1 x262 ho) (by decide) (rfl : ob_cl[11]? = _) mv_Mo_hold w_m_Mo_222 rfl (by decide +kernel) ⟨rfl, rfl⟩ ⟨by decide, by decide⟩ (Nat.le_of_ble_eq_true rfl) rfl d_Mo_ask_265 h (fun t265 H locs h hP hS => ?_)
  refine lv_aload_n hx hb d_Mo_ask_268 rfl (lv_at hl 0 rfl) ?_
  refine lv_aload_n hx hb d_Mo_ask_269 rfl (lv_at hl 0 rfl) ?_
  refine ob_getI (k := 5) Cx hP ck_11 rfl w_f_Mo_19 d_Mo_ask_270 h (fun x270 h => ?_)
  refine lv_iconst (v := 1) hx hb d_Mo_ask_273 (by decide) ?_
  refine lv_iadd hx hb d_Mo_ask_274 ?_
  refine lv_ldc (v := 65536) hx hb Cx.1.2.2.2.1 (Cx.1.2.2.2.2 _ w_const_ObservedBlocksModel_225) d_Mo_ask_275 ?_
  refine lv_irem hx hb d_Mo_ask_277 (by decide) ?_
  refine ob_putI (k := 5) Cx hP hS ck_11 rfl rfl rfl w_f_Mo_19 d_Mo_ask_278 h (fun t278 H locs h hP hS => ?_)
  refine lv_aload_n hx hb d_Mo_ask_281 rfl (lv_at hl 0 rfl) ?_
  refine lv_iconst (v := 1) hx hb d_Mo_ask_282 (by decide) ?_
  refine ob_cVv (nA := 1) (As := [.int (1 : Int32)]) (rest := []) Cx hl.1 hP hS (fun o ho => c_Mo_send v0 (1 : Int32) ho) (fun o ho => g_Mo_send v0 (1 : Int32) ho) (by decide) (rfl : ob_cl[11]? = _) mv_Mo_send w_m_Mo_159 rfl (by decide +kernel) ⟨rfl, rfl⟩ ⟨by decide, by decide⟩ (Nat.le_of_ble_eq_true rfl) rfl d_Mo_ask_283 h (fun t283 H locs h hP hS => ?_)
  exact ob_vret Cx hP hS d_Mo_ask_286 h
set_option maxHeartbeats 4000000 in
set_option maxRecDepth 100000 in
theorem tB_Mo_ask_189 {p : Program} {l : Launch} {e : Env} {R : Room} {s : State} {m : MethodId} {args : Array Value} {below : List Frame} {meth : Method} {c : Code} {b : Nat} {D : va_G} {cA : Nat → ClassId} {adK adV : Nat → Nat} {out : ob_S} (Cx : ob_C p R s m args meth c cb_Mo_ask 7 "ObservedBlocksModel" none b D cA adK adV 3 67) : ∀ (fu : Nat), ∀ (t : ob_S) (H : Heap) (locs : List Loc) (ls : Array Slot) (v0 : Nat) (v1 : Int32) (v4 : Int32) (v5 : Int32) (v6 : Int32), ob_H b D cA t H → va_S (ob_A b) s.heap H locs → lv_has ls 7 [(0, .ref (b + v0)), (1, .int v1), (4, .int v4), (5, .int v5), (6, .int v6)] → B_Mo_ask_189 fu v0 v1 v4 v5 v6 t = some out → W p l e R s m args below meth c H locs 0 0 (MQ below (ob_Qv b D cA out) args s 0 0 (ob_A b)) (F0 m 189 ls []) := by
  have hx := Cx.1.1
  have hb := Cx.1.2.1
  intro fu
  induction fu with
  | zero =>
    intro t H locs ls v0 v1 v4 v5 v6 hP hS hl h
    cases h
  | succ fu ih =>
    intro t H locs ls v0 v1 v4 v5 v6 hP hS hl h
    rw [B_Mo_ask_189] at h
    refine lv_iload hx hb d_Mo_ask_189 (lv_at hl 4 rfl) ?_
    refine lv_iload hx hb d_Mo_ask_191 (lv_at hl 3 rfl) ?_
    refine lv_icmp_ge (tgt := 235) hx hb d_Mo_ask_193 (by decide) (fun hq => ?_) (fun hq => ?_)
    · rw [if_pos hq] at h
      refine lv_aload_n hx hb d_Mo_ask_235 rfl (lv_at hl 0 rfl) ?_
      refine ob_getR (k := 25) Cx hP ck_11 rfl w_f_Mo_81 d_Mo_ask_236 h (fun n236 h => ?_)
      refine lv_iload_n hx hb d_Mo_ask_239 rfl (lv_at hl 1 rfl) ?_
      refine lv_iload hx hb d_Mo_ask_240 (lv_at hl 2 rfl) ?_
      refine lv_iconst (v := 1) hx hb d_Mo_ask_242 (by decide) ?_
      refine lv_icmp_ne (tgt := 250) hx hb d_Mo_ask_243 (by decide) (fun hq => ?_) (fun hq => ?_)
      · rw [if_pos hq] at h
        refine lv_iconst (v := 0) hx hb d_Mo_ask_250 (by decide) ?_
        exact tB_Mo_ask_251 Cx t H locs ls v0 v1 (0 : Int32) v1 n236 hP hS (lv_sub hl [0, 1] rfl) h
      · rw [if_neg (fun z => z hq)] at h
        refine lv_iconst (v := 1) hx hb d_Mo_ask_246 (by decide) ?_
        refine lv_goto (tgt := 251) hx hb d_Mo_ask_247 (by decide) ?_
        exact tB_Mo_ask_251 Cx t H locs ls v0 v1 (1 : Int32) v1 n236 hP hS (lv_sub hl [0, 1] rfl) h
    · rw [if_neg hq] at h
      refine lv_aload_n hx hb d_Mo_ask_196 rfl (lv_at hl 0 rfl) ?_
      refine lv_aload_n hx hb d_Mo_ask_197 rfl (lv_at hl 0 rfl) ?_
      refine ob_getR (k := 26) Cx hP ck_11 rfl w_f_Mo_84 d_Mo_ask_198 h (fun n198 h => ?_)
      refine lv_bipush (v := 80) hx hb d_Mo_ask_201 (by decide) ?_
      refine lv_iload_n hx hb d_Mo_ask_203 rfl (lv_at hl 1 rfl) ?_
      refine lv_imul hx hb d_Mo_ask_204 ?_
      refine lv_aload_n hx hb d_Mo_ask_205 rfl (lv_at hl 0 rfl) ?_
      refine ob_getR (k := 19) Cx hP ck_11 rfl w_f_Mo_63 d_Mo_ask_206 h (fun n206 h => ?_)
      refine lv_iload_n hx hb d_Mo_ask_209 rfl (lv_at hl 1 rfl) ?_
      refine ob_aldI Cx hP d_Mo_ask_210 h (fun x210 h => ?_)
      refine lv_aload_n hx hb d_Mo_ask_211 rfl (lv_at hl 0 rfl) ?_
      refine ob_getR (k := 18) Cx hP ck_11 rfl w_f_Mo_60 d_Mo_ask_212 h (fun n212 h => ?_)
      refine lv_iload_n hx hb d_Mo_ask_215 rfl (lv_at hl 1 rfl) ?_
      refine ob_aldI Cx hP d_Mo_ask_216 h (fun x216 h => ?_)
      refine ob_cSi (nA := 1) (As := [.int x216]) (rest := [.int x210, .int ((80 : Int32) * v1), .ref (b + n198), .ref (b + v0)]) Cx hl.1 hP hS (fun o ho => c_Mo_sizeOf x216 ho) ms_Mo_sizeOf w_m_Mo_152 rfl (by decide +kernel) ⟨rfl, rfl⟩ ⟨by decide, by decide⟩ (Nat.le_of_ble_eq_true rfl) rfl d_Mo_ask_217 h (fun x217 t217 H locs h hP hS => ?_)
      refine lv_imul hx hb d_Mo_ask_220 ?_
      refine lv_iadd hx hb d_Mo_ask_221 ?_
      refine lv_iload hx hb d_Mo_ask_222 (lv_at hl 4 rfl) ?_
      refine lv_iadd hx hb d_Mo_ask_224 ?_
      refine ob_aldI Cx hP d_Mo_ask_225 h (fun x225 h => ?_)
      refine ob_cVv (nA := 1) (As := [.int x225]) (rest := []) Cx hl.1 hP hS (fun o ho => c_Mo_write v0 x225 ho) (fun o ho => g_Mo_write v0 x225 ho) (by decide) (rfl : ob_cl[11]? = _) mv_Mo_write w_m_Mo_144 rfl (by decide +kernel) ⟨rfl, rfl⟩ ⟨by decide, by decide⟩ (Nat.le_of_ble_eq_true rfl) rfl d_Mo_ask_226 h (fun t226 H locs h hP hS => ?_)
      refine lv_iinc (v := (v6 + (1 : Int32))) (lv' := [(6, .int (v6 + (1 : Int32))), (0, .ref (b + v0)), (1, .int v1), (4, .int v4), (5, .int v5)]) hx hb d_Mo_ask_229 hl (k := 4) rfl rfl (by decide) rfl (fun ls hl => ?_)
      refine lv_goto (tgt := 189) hx hb d_Mo_ask_232 (by decide) ?_
      exact ih t226 H locs ls v0 v1 v4 v5 (v6 + (1 : Int32)) hP hS (lv_sub hl [1, 2, 3, 4, 0] rfl) h
set_option maxHeartbeats 4000000 in
set_option maxRecDepth 100000 in
theorem tB_Mo_ask_186 {p : Program} {l : Launch} {e : Env} {R : Room} {s : State} {m : MethodId} {args : Array Value} {below : List Frame} {meth : Method} {c : Code} {b : Nat} {D : va_G} {cA : Nat → ClassId} {adK adV : Nat → Nat} {out : ob_S} (Cx : ob_C p R s m args meth c cb_Mo_ask 7 "ObservedBlocksModel" none b D cA adK adV 3 67) : ∀ (t : ob_S) (H : Heap) (locs : List Loc) (ls : Array Slot) (v0 : Nat) (v1 : Int32) (v4 : Int32) (v5 : Int32), ob_H b D cA t H → va_S (ob_A b) s.heap H locs → lv_has ls 7 [(0, .ref (b + v0)), (1, .int v1), (4, .int v4), (5, .int v5)] → B_Mo_ask_186 v0 v1 v4 v5 t = some out → W p l e R s m args below meth c H locs 0 0 (MQ below (ob_Qv b D cA out) args s 0 0 (ob_A b)) (F0 m 186 ls []) := by
  have hx := Cx.1.1
  have hb := Cx.1.2.1
  intro t H locs ls v0 v1 v4 v5 hP hS hl h
  unfold B_Mo_ask_186 at h
  refine lv_iconst (v := 0) hx hb d_Mo_ask_186 (by decide) ?_
  refine lv_istore (lv' := [(6, .int (0 : Int32)), (0, .ref (b + v0)), (1, .int v1), (4, .int v4), (5, .int v5)]) hx hb d_Mo_ask_187 hl (by decide) rfl (fun ls hl => ?_)
  exact tB_Mo_ask_189 Cx ob_fu t H locs ls v0 v1 v4 v5 (0 : Int32) hP hS (lv_sub hl [1, 2, 3, 4, 0] rfl) h
set_option maxHeartbeats 4000000 in
set_option maxRecDepth 100000 in
theorem tB_Mo_ask_172 {p : Program} {l : Launch} {e : Env} {R : Room} {s : State} {m : MethodId} {args : Array Value} {below : List Frame} {meth : Method} {c : Code} {b : Nat} {D : va_G} {cA : Nat → ClassId} {adK adV : Nat → Nat} {out : ob_S} (Cx : ob_C p R s m args meth c cb_Mo_ask 7 "ObservedBlocksModel" none b D cA adK adV 3 67) : ∀ (t : ob_S) (H : Heap) (locs : List Loc) (ls : Array Slot) (v0 : Nat) (v1 : Int32) (v4 : Int32) (s0 : Int32), ob_H b D cA t H → va_S (ob_A b) s.heap H locs → lv_has ls 7 [(0, .ref (b + v0)), (1, .int v1), (4, .int v4)] → B_Mo_ask_172 v0 v1 v4 s0 t = some out → W p l e R s m args below meth c H locs 0 0 (MQ below (ob_Qv b D cA out) args s 0 0 (ob_A b)) (F0 m 172 ls [.int s0]) := by
  have hx := Cx.1.1
  have hb := Cx.1.2.1
  intro t H locs ls v0 v1 v4 s0 hP hS hl h
  unfold B_Mo_ask_172 at h
  refine lv_istore (lv' := [(5, .int s0), (0, .ref (b + v0)), (1, .int v1), (4, .int v4)]) hx hb d_Mo_ask_172 hl (by decide) rfl (fun ls hl => ?_)
  refine lv_iload hx hb d_Mo_ask_174 (lv_at hl 0 rfl) ?_
  refine lv_if_le (tgt := 186) hx hb d_Mo_ask_176 (by decide) (fun hq => ?_) (fun hq => ?_)
  · rw [if_pos hq] at h
    exact tB_Mo_ask_186 Cx t H locs ls v0 v1 v4 s0 hP hS (lv_sub hl [1, 2, 3, 0] rfl) h
  · rw [if_neg hq] at h
    refine lv_aload_n hx hb d_Mo_ask_179 rfl (lv_at hl 1 rfl) ?_
    refine lv_sipush (v := 255) hx hb d_Mo_ask_180 (by decide) ?_
    refine ob_cVv (nA := 1) (As := [.int (255 : Int32)]) (rest := []) Cx hl.1 hP hS (fun o ho => c_Mo_write v0 (255 : Int32) ho) (fun o ho => g_Mo_write v0 (255 : Int32) ho) (by decide) (rfl : ob_cl[11]? = _) mv_Mo_write w_m_Mo_144 rfl (by decide +kernel) ⟨rfl, rfl⟩ ⟨by decide, by decide⟩ (Nat.le_of_ble_eq_true rfl) rfl d_Mo_ask_183 h (fun t183 H locs h hP hS => ?_)
    exact tB_Mo_ask_186 Cx t183 H locs ls v0 v1 v4 s0 hP hS (lv_sub hl [1, 2, 3, 0] rfl) h
set_option maxHeartbeats 4000000 in
set_option maxRecDepth 100000 in
theorem tB_Mo_ask_118 {p : Program} {l : Launch} {e : Env} {R : Room} {s : State} {m : MethodId} {args : Array Value} {below : List Frame} {meth : Method} {c : Code} {b : Nat} {D : va_G} {cA : Nat → ClassId} {adK adV : Nat → Nat} {out : ob_S} (Cx : ob_C p R s m args meth c cb_Mo_ask 7 "ObservedBlocksModel" none b D cA adK adV 3 67) : ∀ (t : ob_S) (H : Heap) (locs : List Loc) (ls : Array Slot) (v0 : Nat) (v1 : Int32) (v3 : Int32) (v4 : Int32) (s0 : Int32) (s1 : Nat), ob_H b D cA t H → va_S (ob_A b) s.heap H locs → lv_has ls 7 [(0, .ref (b + v0)), (1, .int v1), (3, .int v3), (4, .int v4)] → B_Mo_ask_118 v0 v1 v3 v4 s0 s1 t = some out → W p l e R s m args below meth c H locs 0 0 (MQ below (ob_Qv b D cA out) args s 0 0 (ob_A b)) (F0 m 118 ls [.int s0, .ref (b + s1)]) := by
  have hx := Cx.1.1
  have hb := Cx.1.2.1
  intro t H locs ls v0 v1 v3 v4 s0 s1 hP hS hl h
  unfold B_Mo_ask_118 at h
  refine lv_bipush (v := 16) hx hb d_Mo_ask_118 (by decide) ?_
  refine lv_aload_n hx hb d_Mo_ask_120 rfl (lv_at hl 0 rfl) ?_
  refine ob_getR (k := 19) Cx hP ck_11 rfl w_f_Mo_63 d_Mo_ask_121 h (fun n121 h => ?_)
  refine lv_iload_n hx hb d_Mo_ask_124 rfl (lv_at hl 1 rfl) ?_
  refine ob_aldI Cx hP d_Mo_ask_125 h (fun x125 h => ?_)
  refine lv_imul hx hb d_Mo_ask_126 ?_
  refine lv_bipush (v := 8) hx hb d_Mo_ask_127 (by decide) ?_
  refine lv_iload hx hb d_Mo_ask_129 (lv_at hl 3 rfl) ?_
  refine lv_imul hx hb d_Mo_ask_131 ?_
  refine lv_iadd hx hb d_Mo_ask_132 ?_
  refine lv_aload_n hx hb d_Mo_ask_133 rfl (lv_at hl 0 rfl) ?_
  refine ob_getR (k := 18) Cx hP ck_11 rfl w_f_Mo_60 d_Mo_ask_134 h (fun n134 h => ?_)
  refine lv_iload_n hx hb d_Mo_ask_137 rfl (lv_at hl 1 rfl) ?_
  refine ob_aldI Cx hP d_Mo_ask_138 h (fun x138 h => ?_)
  refine lv_iadd hx hb d_Mo_ask_139 ?_
  refine ob_cVv (nA := 2) (As := [.int s0, .int ((((16 : Int32) * x125) + ((8 : Int32) * v4)) + x138)]) (rest := []) Cx hl.1 hP hS (fun o ho => c_Mo_option s1 s0 ((((16 : Int32) * x125) + ((8 : Int32) * v4)) + x138) ho) (fun o ho => g_Mo_option s1 s0 ((((16 : Int32) * x125) + ((8 : Int32) * v4)) + x138) ho) (by decide) (rfl : ob_cl[11]? = _) mv_Mo_option w_m_Mo_209 rfl (by decide +kernel) ⟨rfl, rfl⟩ ⟨by decide, by decide⟩ (Nat.le_of_ble_eq_true rfl) rfl d_Mo_ask_140 h (fun t140 H locs h hP hS => ?_)
  refine lv_aload_n hx hb d_Mo_ask_143 rfl (lv_at hl 0 rfl) ?_
  refine ob_getR (k := 20) Cx hP ck_11 rfl w_f_Mo_66 d_Mo_ask_144 h (fun n144 h => ?_)
  refine lv_iload_n hx hb d_Mo_ask_147 rfl (lv_at hl 1 rfl) ?_
  refine ob_aldZ Cx hP d_Mo_ask_148 h (fun x148 h => ?_)
  refine lv_if_eq (tgt := 171) hx hb d_Mo_ask_149 (by decide) (fun hq => ?_) (fun hq => ?_)
  · rw [if_pos hq] at h
    refine lv_iconst (v := 0) hx hb d_Mo_ask_171 (by decide) ?_
    exact tB_Mo_ask_172 Cx t140 H locs ls v0 v1 v4 (0 : Int32) hP hS (lv_sub hl [0, 1, 3] rfl) h
  · rw [if_neg hq] at h
    refine lv_iload_n hx hb d_Mo_ask_152 rfl (lv_at hl 2 rfl) ?_
    refine lv_aload_n hx hb d_Mo_ask_153 rfl (lv_at hl 0 rfl) ?_
    refine ob_getR (k := 19) Cx hP ck_11 rfl w_f_Mo_63 d_Mo_ask_154 h (fun n154 h => ?_)
    refine lv_iload_n hx hb d_Mo_ask_157 rfl (lv_at hl 1 rfl) ?_
    refine ob_aldI Cx hP d_Mo_ask_158 h (fun x158 h => ?_)
    refine lv_aload_n hx hb d_Mo_ask_159 rfl (lv_at hl 0 rfl) ?_
    refine ob_getR (k := 18) Cx hP ck_11 rfl w_f_Mo_60 d_Mo_ask_160 h (fun n160 h => ?_)
    refine lv_iload_n hx hb d_Mo_ask_163 rfl (lv_at hl 1 rfl) ?_
    refine ob_aldI Cx hP d_Mo_ask_164 h (fun x164 h => ?_)
    refine ob_cSi (nA := 3) (As := [.int v3, .int x158, .int x164]) (rest := []) Cx hl.1 hP hS (fun o ho => c_Mo_within v3 x158 x164 ho) ms_Mo_within w_m_Mo_219 rfl (by decide +kernel) ⟨rfl, rfl⟩ ⟨by decide, by decide⟩ (Nat.le_of_ble_eq_true rfl) rfl d_Mo_ask_165 h (fun x165 t165 H locs h hP hS => ?_)
    refine lv_goto (tgt := 172) hx hb d_Mo_ask_168 (by decide) ?_
    exact tB_Mo_ask_172 Cx t165 H locs ls v0 v1 v4 x165 hP hS (lv_sub hl [0, 1, 3] rfl) h
set_option maxHeartbeats 4000000 in
set_option maxRecDepth 100000 in
theorem tB_Mo_ask_99 {p : Program} {l : Launch} {e : Env} {R : Room} {s : State} {m : MethodId} {args : Array Value} {below : List Frame} {meth : Method} {c : Code} {b : Nat} {D : va_G} {cA : Nat → ClassId} {adK adV : Nat → Nat} {out : ob_S} (Cx : ob_C p R s m args meth c cb_Mo_ask 7 "ObservedBlocksModel" none b D cA adK adV 3 67) : ∀ (t : ob_S) (H : Heap) (locs : List Loc) (ls : Array Slot) (v0 : Nat) (v1 : Int32) (v3 : Int32) (s0 : Int32), ob_H b D cA t H → va_S (ob_A b) s.heap H locs → lv_has ls 7 [(0, .ref (b + v0)), (1, .int v1), (3, .int v3)] → B_Mo_ask_99 v0 v1 v3 s0 t = some out → W p l e R s m args below meth c H locs 0 0 (MQ below (ob_Qv b D cA out) args s 0 0 (ob_A b)) (F0 m 99 ls [.int s0]) := by
  have hx := Cx.1.1
  have hb := Cx.1.2.1
  intro t H locs ls v0 v1 v3 s0 hP hS hl h
  unfold B_Mo_ask_99 at h
  refine lv_istore (lv' := [(4, .int s0), (0, .ref (b + v0)), (1, .int v1), (3, .int v3)]) hx hb d_Mo_ask_99 hl (by decide) rfl (fun ls hl => ?_)
  refine lv_aload_n hx hb d_Mo_ask_101 rfl (lv_at hl 1 rfl) ?_
  refine lv_aload_n hx hb d_Mo_ask_102 rfl (lv_at hl 1 rfl) ?_
  refine ob_getR (k := 20) Cx hP ck_11 rfl w_f_Mo_66 d_Mo_ask_103 h (fun n103 h => ?_)
  refine lv_iload_n hx hb d_Mo_ask_106 rfl (lv_at hl 2 rfl) ?_
  refine ob_aldZ Cx hP d_Mo_ask_107 h (fun x107 h => ?_)
  refine lv_if_eq (tgt := 116) hx hb d_Mo_ask_108 (by decide) (fun hq => ?_) (fun hq => ?_)
  · rw [if_pos hq] at h
    refine lv_bipush (v := 23) hx hb d_Mo_ask_116 (by decide) ?_
    exact tB_Mo_ask_118 Cx t H locs ls v0 v1 v3 s0 (23 : Int32) v0 hP hS (lv_sub hl [1, 2, 3, 0] rfl) h
  · rw [if_neg hq] at h
    refine lv_bipush (v := 27) hx hb d_Mo_ask_111 (by decide) ?_
    refine lv_goto (tgt := 118) hx hb d_Mo_ask_113 (by decide) ?_
    exact tB_Mo_ask_118 Cx t H locs ls v0 v1 v3 s0 (27 : Int32) v0 hP hS (lv_sub hl [1, 2, 3, 0] rfl) h
set_option maxHeartbeats 4000000 in
set_option maxRecDepth 100000 in
theorem tB_Mo_ask_60 {p : Program} {l : Launch} {e : Env} {R : Room} {s : State} {m : MethodId} {args : Array Value} {below : List Frame} {meth : Method} {c : Code} {b : Nat} {D : va_G} {cA : Nat → ClassId} {adK adV : Nat → Nat} {out : ob_S} (Cx : ob_C p R s m args meth c cb_Mo_ask 7 "ObservedBlocksModel" none b D cA adK adV 3 67) : ∀ (t : ob_S) (H : Heap) (locs : List Loc) (ls : Array Slot) (v0 : Nat) (v1 : Int32) (v3 : Int32), ob_H b D cA t H → va_S (ob_A b) s.heap H locs → lv_has ls 7 [(0, .ref (b + v0)), (1, .int v1), (3, .int v3)] → B_Mo_ask_60 v0 v1 v3 t = some out → W p l e R s m args below meth c H locs 0 0 (MQ below (ob_Qv b D cA out) args s 0 0 (ob_A b)) (F0 m 60 ls []) := by
  have hx := Cx.1.1
  have hb := Cx.1.2.1
  intro t H locs ls v0 v1 v3 hP hS hl h
  unfold B_Mo_ask_60 at h
  refine lv_aload_n hx hb d_Mo_ask_60 rfl (lv_at hl 0 rfl) ?_
  refine lv_aload_n hx hb d_Mo_ask_61 rfl (lv_at hl 0 rfl) ?_
  refine ob_getR (k := 17) Cx hP ck_11 rfl w_f_Mo_57 d_Mo_ask_62 h (fun n62 h => ?_)
  refine lv_iload_n hx hb d_Mo_ask_65 rfl (lv_at hl 1 rfl) ?_
  refine ob_aldI Cx hP d_Mo_ask_66 h (fun x66 h => ?_)
  refine ob_cVv (nA := 1) (As := [.int x66]) (rest := []) Cx hl.1 hP hS (fun o ho => c_Mo_path v0 x66 ho) (fun o ho => g_Mo_path v0 x66 ho) (by decide) (rfl : ob_cl[11]? = _) mv_Mo_path w_m_Mo_212 rfl (by decide +kernel) ⟨rfl, rfl⟩ ⟨by decide, by decide⟩ (Nat.le_of_ble_eq_true rfl) rfl d_Mo_ask_67 h (fun t67 H locs h hP hS => ?_)
  refine lv_aload_n hx hb d_Mo_ask_70 rfl (lv_at hl 0 rfl) ?_
  refine ob_getR (k := 20) Cx hP ck_11 rfl w_f_Mo_66 d_Mo_ask_71 h (fun n71 h => ?_)
  refine lv_iload_n hx hb d_Mo_ask_74 rfl (lv_at hl 1 rfl) ?_
  refine ob_aldZ Cx hP d_Mo_ask_75 h (fun x75 h => ?_)
  refine lv_if_eq (tgt := 98) hx hb d_Mo_ask_76 (by decide) (fun hq => ?_) (fun hq => ?_)
  · rw [if_pos hq] at h
    refine lv_iconst (v := 0) hx hb d_Mo_ask_98 (by decide) ?_
    exact tB_Mo_ask_99 Cx t67 H locs ls v0 v1 v3 (0 : Int32) hP hS (lv_sub hl [0, 1, 2] rfl) h
  · rw [if_neg hq] at h
    refine lv_iload_n hx hb d_Mo_ask_79 rfl (lv_at hl 2 rfl) ?_
    refine lv_aload_n hx hb d_Mo_ask_80 rfl (lv_at hl 0 rfl) ?_
    refine ob_getR (k := 19) Cx hP ck_11 rfl w_f_Mo_63 d_Mo_ask_81 h (fun n81 h => ?_)
    refine lv_iload_n hx hb d_Mo_ask_84 rfl (lv_at hl 1 rfl) ?_
    refine ob_aldI Cx hP d_Mo_ask_85 h (fun x85 h => ?_)
    refine lv_aload_n hx hb d_Mo_ask_86 rfl (lv_at hl 0 rfl) ?_
    refine ob_getR (k := 18) Cx hP ck_11 rfl w_f_Mo_60 d_Mo_ask_87 h (fun n87 h => ?_)
    refine lv_iload_n hx hb d_Mo_ask_90 rfl (lv_at hl 1 rfl) ?_
    refine ob_aldI Cx hP d_Mo_ask_91 h (fun x91 h => ?_)
    refine ob_cSi (nA := 3) (As := [.int v3, .int x85, .int x91]) (rest := []) Cx hl.1 hP hS (fun o ho => c_Mo_more v3 x85 x91 ho) ms_Mo_more w_m_Mo_215 rfl (by decide +kernel) ⟨rfl, rfl⟩ ⟨by decide, by decide⟩ (Nat.le_of_ble_eq_true rfl) rfl d_Mo_ask_92 h (fun x92 t92 H locs h hP hS => ?_)
    refine lv_goto (tgt := 99) hx hb d_Mo_ask_95 (by decide) ?_
    exact tB_Mo_ask_99 Cx t92 H locs ls v0 v1 v3 x92 hP hS (lv_sub hl [0, 1, 2] rfl) h
set_option maxHeartbeats 4000000 in
set_option maxRecDepth 100000 in
theorem tB_Mo_ask_23 {p : Program} {l : Launch} {e : Env} {R : Room} {s : State} {m : MethodId} {args : Array Value} {below : List Frame} {meth : Method} {c : Code} {b : Nat} {D : va_G} {cA : Nat → ClassId} {adK adV : Nat → Nat} {out : ob_S} (Cx : ob_C p R s m args meth c cb_Mo_ask 7 "ObservedBlocksModel" none b D cA adK adV 3 67) : ∀ (t : ob_S) (H : Heap) (locs : List Loc) (ls : Array Slot) (v0 : Nat) (v1 : Int32) (v2 : Int32) (v3 : Int32) (s0 : Int32) (s1 : Int32) (s2 : Nat), ob_H b D cA t H → va_S (ob_A b) s.heap H locs → lv_has ls 7 [(0, .ref (b + v0)), (1, .int v1), (2, .int v2), (3, .int v3)] → B_Mo_ask_23 v0 v1 v2 v3 s0 s1 s2 t = some out → W p l e R s m args below meth c H locs 0 0 (MQ below (ob_Qv b D cA out) args s 0 0 (ob_A b)) (F0 m 23 ls [.int s0, .int s1, .ref (b + s2)]) := by
  have hx := Cx.1.1
  have hb := Cx.1.2.1
  intro t H locs ls v0 v1 v2 v3 s0 s1 s2 hP hS hl h
  unfold B_Mo_ask_23 at h
  refine lv_aload_n hx hb d_Mo_ask_23 rfl (lv_at hl 0 rfl) ?_
  refine ob_getI (k := 5) Cx hP ck_11 rfl w_f_Mo_19 d_Mo_ask_24 h (fun x24 h => ?_)
  refine ob_cVv (nA := 3) (As := [.int s1, .int s0, .int x24]) (rest := []) Cx hl.1 hP hS (fun o ho => c_Mo_begin s2 s1 s0 x24 ho) (fun o ho => g_Mo_begin s2 s1 s0 x24 ho) (by decide) (rfl : ob_cl[11]? = _) mv_Mo_begin w_m_Mo_162 rfl (by decide +kernel) ⟨rfl, rfl⟩ ⟨by decide, by decide⟩ (Nat.le_of_ble_eq_true rfl) rfl d_Mo_ask_27 h (fun t27 H locs h hP hS => ?_)
  refine lv_aload_n hx hb d_Mo_ask_30 rfl (lv_at hl 0 rfl) ?_
  refine lv_aload_n hx hb d_Mo_ask_31 rfl (lv_at hl 0 rfl) ?_
  refine ob_getR (k := 16) Cx hP ck_11 rfl w_f_Mo_54 d_Mo_ask_32 h (fun n32 h => ?_)
  refine lv_iload_n hx hb d_Mo_ask_35 rfl (lv_at hl 1 rfl) ?_
  refine ob_aldI Cx hP d_Mo_ask_36 h (fun x36 h => ?_)
  refine ob_cVv (nA := 1) (As := [.int x36]) (rest := []) Cx hl.1 hP hS (fun o ho => c_Mo_write v0 x36 ho) (fun o ho => g_Mo_write v0 x36 ho) (by decide) (rfl : ob_cl[11]? = _) mv_Mo_write w_m_Mo_144 rfl (by decide +kernel) ⟨rfl, rfl⟩ ⟨by decide, by decide⟩ (Nat.le_of_ble_eq_true rfl) rfl d_Mo_ask_37 h (fun t37 H locs h hP hS => ?_)
  refine lv_iload_n hx hb d_Mo_ask_40 rfl (lv_at hl 2 rfl) ?_
  refine lv_if_eq (tgt := 60) hx hb d_Mo_ask_41 (by decide) (fun hq => ?_) (fun hq => ?_)
  · rw [if_pos hq] at h
    exact tB_Mo_ask_60 Cx t37 H locs ls v0 v1 v3 hP hS (lv_sub hl [0, 1, 3] rfl) h
  · rw [if_neg hq] at h
    refine lv_aload_n hx hb d_Mo_ask_44 rfl (lv_at hl 0 rfl) ?_
    refine ob_getR (k := 21) Cx hP ck_11 rfl w_f_Mo_69 d_Mo_ask_45 h (fun n45 h => ?_)
    refine lv_iload_n hx hb d_Mo_ask_48 rfl (lv_at hl 1 rfl) ?_
    refine ob_aldZ Cx hP d_Mo_ask_49 h (fun x49 h => ?_)
    refine lv_if_eq (tgt := 60) hx hb d_Mo_ask_50 (by decide) (fun hq => ?_) (fun hq => ?_)
    · rw [if_pos hq] at h
      exact tB_Mo_ask_60 Cx t37 H locs ls v0 v1 v3 hP hS (lv_sub hl [0, 1, 3] rfl) h
    · rw [if_neg hq] at h
      refine lv_aload_n hx hb d_Mo_ask_53 rfl (lv_at hl 0 rfl) ?_
      refine lv_bipush (v := 6) hx hb d_Mo_ask_54 (by decide) ?_
      refine lv_iconst (v := 0) hx hb d_Mo_ask_56 (by decide) ?_
      refine ob_cVv (nA := 2) (As := [.int (6 : Int32), .int (0 : Int32)]) (rest := []) Cx hl.1 hP hS (fun o ho => c_Mo_option v0 (6 : Int32) (0 : Int32) ho) (fun o ho => g_Mo_option v0 (6 : Int32) (0 : Int32) ho) (by decide) (rfl : ob_cl[11]? = _) mv_Mo_option w_m_Mo_209 rfl (by decide +kernel) ⟨rfl, rfl⟩ ⟨by decide, by decide⟩ (Nat.le_of_ble_eq_true rfl) rfl d_Mo_ask_57 h (fun t57 H locs h hP hS => ?_)
      exact tB_Mo_ask_60 Cx t57 H locs ls v0 v1 v3 hP hS (lv_sub hl [0, 1, 3] rfl) h
theorem g_Mo_ask (v0 : Nat) (v1 : Int32) (v2 : Int32) {t : ob_S} {out : ob_S} (h : X_Mo_ask v0 v1 v2 t = some out) : v0 < ob_n t ∧ ob_k t v0 = 11 := by
  unfold X_Mo_ask ob_this at h
  by_cases q : v0 < ob_n t ∧ ob_k t v0 = 11
  · exact q
  · rw [if_neg q] at h
    cases h
set_option maxHeartbeats 4000000 in
set_option maxRecDepth 100000 in
theorem c_Mo_ask {l : Launch} {b : Nat} {D : va_G} {cA : Nat → ClassId} {adK adV : Nat → Nat} (v0 : Nat) (v1 : Int32) (v2 : Int32) {t : ob_S} {out : ob_S} (h : X_Mo_ask v0 v1 v2 t = some out) : Met l y_Mo_ask (Cond.code y_Mo_ask cb_Mo_ask 7 none :: ob_T) { frames := 3, cells := 0, slots := 0, locals := 67 } (ob_Pre b D cA adK adV [.ref (b + v0), .int v1, .int v2] t) (ob_Qv b D cA out) 0 0 (ob_A b) := by
  refine ob_met (by decide) (Nat.le_of_ble_eq_true rfl) ?_
  intro p e R s m args below meth c ls Cx hP hS hl
  have hl : lv_has ls 7 [(0, .ref (b + v0)), (1, .int v1), (2, .int v2)] := hl
  have hx := Cx.1.1
  have hb := Cx.1.2.1
  have hg := g_Mo_ask v0 v1 v2 h
  unfold X_Mo_ask ob_this at h
  rw [if_pos hg] at h
  obtain ⟨H, hH⟩ : ∃ H, H = s.heap := ⟨_, rfl⟩
  obtain ⟨locs, hL⟩ : ∃ locs : List Loc, locs = [] := ⟨_, rfl⟩
  rw [← hH] at hP
  have hS : va_S (ob_A b) s.heap H locs := by rw [hH, hL]; exact hS
  suffices hW : W p l e R s m args below meth c H locs 0 0 (MQ below (ob_Qv b D cA out) args s 0 0 (ob_A b)) (F0 m 0 ls []) by rw [hH, hL] at hW; exact hW
  refine lv_aload_n hx hb d_Mo_ask_0 rfl (lv_at hl 0 rfl) ?_
  refine ob_getR (k := 27) Cx hP ck_11 rfl w_f_Mo_87 d_Mo_ask_1 h (fun n1 h => ?_)
  refine lv_iload_n hx hb d_Mo_ask_4 rfl (lv_at hl 1 rfl) ?_
  refine ob_aldI Cx hP d_Mo_ask_5 h (fun x5 h => ?_)
  refine lv_istore_n (lv' := [(3, .int x5), (0, .ref (b + v0)), (1, .int v1), (2, .int v2)]) hx hb d_Mo_ask_6 rfl hl (by decide) rfl (fun ls hl => ?_)
  refine lv_aload_n hx hb d_Mo_ask_7 rfl (lv_at hl 1 rfl) ?_
  refine lv_iconst (v := 0) hx hb d_Mo_ask_8 (by decide) ?_
  refine lv_aload_n hx hb d_Mo_ask_9 rfl (lv_at hl 1 rfl) ?_
  refine ob_getR (k := 20) Cx hP ck_11 rfl w_f_Mo_66 d_Mo_ask_10 h (fun n10 h => ?_)
  refine lv_iload_n hx hb d_Mo_ask_13 rfl (lv_at hl 2 rfl) ?_
  refine ob_aldZ Cx hP d_Mo_ask_14 h (fun x14 h => ?_)
  refine lv_if_eq (tgt := 22) hx hb d_Mo_ask_15 (by decide) (fun hq => ?_) (fun hq => ?_)
  · rw [if_pos hq] at h
    refine lv_iconst (v := 1) hx hb d_Mo_ask_22 (by decide) ?_
    exact tB_Mo_ask_23 Cx t H locs ls v0 v1 v2 x5 (1 : Int32) (0 : Int32) v0 hP hS (lv_sub hl [1, 2, 3, 0] rfl) h
  · rw [if_neg hq] at h
    refine lv_iconst (v := 3) hx hb d_Mo_ask_18 (by decide) ?_
    refine lv_goto (tgt := 23) hx hb d_Mo_ask_19 (by decide) ?_
    exact tB_Mo_ask_23 Cx t H locs ls v0 v1 v2 x5 (3 : Int32) (0 : Int32) v0 hP hS (lv_sub hl [1, 2, 3, 0] rfl) h

theorem g_By_byteOrBad (v0 : Nat) (v1 : Int32) {t : ob_S} {out : (Int32 × ob_S)} (h : X_By_byteOrBad v0 v1 t = some out) : v0 < ob_n t ∧ ob_k t v0 = 0 := by
  unfold X_By_byteOrBad ob_this at h
  by_cases q : v0 < ob_n t ∧ ob_k t v0 = 0
  · exact q
  · rw [if_neg q] at h
    cases h
set_option maxHeartbeats 4000000 in
set_option maxRecDepth 100000 in
theorem c_By_byteOrBad {l : Launch} {b : Nat} {D : va_G} {cA : Nat → ClassId} {adK adV : Nat → Nat} (v0 : Nat) (v1 : Int32) {t : ob_S} {out : (Int32 × ob_S)} (h : X_By_byteOrBad v0 v1 t = some out) : Met l y_By_byteOrBad (Cond.code y_By_byteOrBad cb_By_byteOrBad 2 (some .int) :: ob_T) { frames := 1, cells := 0, slots := 0, locals := 21 } (ob_Pre b D cA adK adV [.ref (b + v0), .int v1] t) (ob_Qi b D cA out) 0 0 (ob_A b) := by
  refine ob_met (by decide) (Nat.le_of_ble_eq_true rfl) ?_
  intro p e R s m args below meth c ls Cx hP hS hl
  have hl : lv_has ls 2 [(0, .ref (b + v0)), (1, .int v1)] := hl
  have hx := Cx.1.1
  have hb := Cx.1.2.1
  have hg := g_By_byteOrBad v0 v1 h
  unfold X_By_byteOrBad ob_this at h
  rw [if_pos hg] at h
  obtain ⟨H, hH⟩ : ∃ H, H = s.heap := ⟨_, rfl⟩
  obtain ⟨locs, hL⟩ : ∃ locs : List Loc, locs = [] := ⟨_, rfl⟩
  rw [← hH] at hP
  have hS : va_S (ob_A b) s.heap H locs := by rw [hH, hL]; exact hS
  suffices hW : W p l e R s m args below meth c H locs 0 0 (MQ below (ob_Qi b D cA out) args s 0 0 (ob_A b)) (F0 m 0 ls []) by rw [hH, hL] at hW; exact hW
  refine lv_aload_n hx hb d_By_byteOrBad_0 rfl (lv_at hl 0 rfl) ?_
  refine lv_iload_n hx hb d_By_byteOrBad_1 rfl (lv_at hl 1 rfl) ?_
  refine ob_cVi (nA := 1) (As := [.int v1]) (rest := []) Cx hl.1 hP hS (fun o ho => c_By_has v0 v1 ho) (fun o ho => g_By_has v0 v1 ho) (by decide) (rfl : ob_cl[0]? = _) mv_By_has w_m_By_19 rfl (by decide +kernel) ⟨rfl, rfl⟩ ⟨by decide, by decide⟩ (Nat.le_of_ble_eq_true rfl) rfl d_By_byteOrBad_2 h (fun x2 t2 H locs h hP hS => ?_)
  refine lv_if_eq (tgt := 17) hx hb d_By_byteOrBad_5 (by decide) (fun hq => ?_) (fun hq => ?_)
  · rw [if_pos hq] at h
    refine lv_iconst (v := -1) hx hb d_By_byteOrBad_17 (by decide) ?_
    exact ob_iret Cx hP hS d_By_byteOrBad_18 h
  · rw [if_neg hq] at h
    refine lv_aload_n hx hb d_By_byteOrBad_8 rfl (lv_at hl 0 rfl) ?_
    refine ob_getR (k := 0) Cx hP ck_0 rfl w_f_By_9 d_By_byteOrBad_9 h (fun n9 h => ?_)
    refine lv_iload_n hx hb d_By_byteOrBad_12 rfl (lv_at hl 1 rfl) ?_
    refine ob_aldI Cx hP d_By_byteOrBad_13 h (fun x13 h => ?_)
    refine lv_goto (tgt := 18) hx hb d_By_byteOrBad_14 (by decide) ?_
    exact ob_iret Cx hP hS d_By_byteOrBad_18 h
set_option maxHeartbeats 4000000 in
set_option maxRecDepth 100000 in
theorem tB_Ms_numberIn_30 {p : Program} {l : Launch} {e : Env} {R : Room} {s : State} {m : MethodId} {args : Array Value} {below : List Frame} {meth : Method} {c : Code} {b : Nat} {D : va_G} {cA : Nat → ClassId} {adK adV : Nat → Nat} {out : (Int32 × ob_S)} (Cx : ob_C p R s m args meth c cb_Ms_numberIn 3 "ObservedBlocks$Message" (some .int) b D cA adK adV 2 42) : ∀ (t : ob_S) (H : Heap) (locs : List Loc) (ls : Array Slot), ob_H b D cA t H → va_S (ob_A b) s.heap H locs → lv_has ls 3 [] → B_Ms_numberIn_30 t = some out → W p l e R s m args below meth c H locs 0 0 (MQ below (ob_Qi b D cA out) args s 0 0 (ob_A b)) (F0 m 30 ls []) := by
  have hx := Cx.1.1
  have hb := Cx.1.2.1
  intro t H locs ls  hP hS hl h
  unfold B_Ms_numberIn_30 at h
  refine lv_iconst (v := -1) hx hb d_Ms_numberIn_30 (by decide) ?_
  exact ob_iret Cx hP hS d_Ms_numberIn_31 h
theorem g_Ms_numberIn (v0 : Nat) (v1 : Nat) {t : ob_S} {out : (Int32 × ob_S)} (h : X_Ms_numberIn v0 v1 t = some out) : v0 < ob_n t ∧ ob_k t v0 = 8 := by
  unfold X_Ms_numberIn ob_this at h
  by_cases q : v0 < ob_n t ∧ ob_k t v0 = 8
  · exact q
  · rw [if_neg q] at h
    cases h
set_option maxHeartbeats 4000000 in
set_option maxRecDepth 100000 in
theorem c_Ms_numberIn {l : Launch} {b : Nat} {D : va_G} {cA : Nat → ClassId} {adK adV : Nat → Nat} (v0 : Nat) (v1 : Nat) {t : ob_S} {out : (Int32 × ob_S)} (h : X_Ms_numberIn v0 v1 t = some out) : Met l y_Ms_numberIn (Cond.code y_Ms_numberIn cb_Ms_numberIn 3 (some .int) :: ob_T) { frames := 2, cells := 0, slots := 0, locals := 42 } (ob_Pre b D cA adK adV [.ref (b + v0), .ref (b + v1)] t) (ob_Qi b D cA out) 0 0 (ob_A b) := by
  refine ob_met (by decide) (Nat.le_of_ble_eq_true rfl) ?_
  intro p e R s m args below meth c ls Cx hP hS hl
  have hl : lv_has ls 3 [(0, .ref (b + v0)), (1, .ref (b + v1))] := hl
  have hx := Cx.1.1
  have hb := Cx.1.2.1
  have hg := g_Ms_numberIn v0 v1 h
  unfold X_Ms_numberIn ob_this at h
  rw [if_pos hg] at h
  obtain ⟨H, hH⟩ : ∃ H, H = s.heap := ⟨_, rfl⟩
  obtain ⟨locs, hL⟩ : ∃ locs : List Loc, locs = [] := ⟨_, rfl⟩
  rw [← hH] at hP
  have hS : va_S (ob_A b) s.heap H locs := by rw [hH, hL]; exact hS
  suffices hW : W p l e R s m args below meth c H locs 0 0 (MQ below (ob_Qi b D cA out) args s 0 0 (ob_A b)) (F0 m 0 ls []) by rw [hH, hL] at hW; exact hW
  refine lv_aload_n hx hb d_Ms_numberIn_0 rfl (lv_at hl 0 rfl) ?_
  refine ob_getI (k := 14) Cx hP ck_8 rfl w_f_Ms_107 d_Ms_numberIn_1 h (fun x1 h => ?_)
  refine lv_if_ne (tgt := 9) hx hb d_Ms_numberIn_4 (by decide) (fun hq => ?_) (fun hq => ?_)
  · rw [if_pos hq] at h
    refine lv_aload_n hx hb d_Ms_numberIn_9 rfl (lv_at hl 1 rfl) ?_
    refine lv_aload_n hx hb d_Ms_numberIn_10 rfl (lv_at hl 0 rfl) ?_
    refine ob_getI (k := 13) Cx hP ck_8 rfl w_f_Ms_110 d_Ms_numberIn_11 h (fun x11 h => ?_)
    refine ob_cVi (nA := 1) (As := [.int x11]) (rest := []) Cx hl.1 hP hS (fun o ho => c_By_byteOrBad v1 x11 ho) (fun o ho => g_By_byteOrBad v1 x11 ho) (by decide) (rfl : ob_cl[0]? = _) mv_By_byteOrBad w_m_Ms_127 rfl (by decide +kernel) ⟨rfl, rfl⟩ ⟨by decide, by decide⟩ (Nat.le_of_ble_eq_true rfl) rfl d_Ms_numberIn_14 h (fun x14 t14 H locs h hP hS => ?_)
    refine lv_istore_n (lv' := [(2, .int x14), (0, .ref (b + v0)), (1, .ref (b + v1))]) hx hb d_Ms_numberIn_17 rfl hl (by decide) rfl (fun ls hl => ?_)
    refine lv_aload_n hx hb d_Ms_numberIn_18 rfl (lv_at hl 1 rfl) ?_
    refine ob_getI (k := 14) Cx hP ck_8 rfl w_f_Ms_107 d_Ms_numberIn_19 h (fun x19 h => ?_)
    refine lv_iconst (v := 2) hx hb d_Ms_numberIn_22 (by decide) ?_
    refine lv_icmp_gt (tgt := 30) hx hb d_Ms_numberIn_23 (by decide) (fun hq => ?_) (fun hq => ?_)
    · rw [if_pos hq] at h
      exact tB_Ms_numberIn_30 Cx t14 H locs ls hP hS (lv_sub hl [] rfl) h
    · rw [if_neg hq] at h
      refine lv_iload_n hx hb d_Ms_numberIn_26 rfl (lv_at hl 0 rfl) ?_
      refine lv_if_gt (tgt := 32) hx hb d_Ms_numberIn_27 (by decide) (fun hq => ?_) (fun hq => ?_)
      · rw [if_pos hq] at h
        refine lv_aload_n hx hb d_Ms_numberIn_32 rfl (lv_at hl 1 rfl) ?_
        refine ob_getI (k := 14) Cx hP ck_8 rfl w_f_Ms_107 d_Ms_numberIn_33 h (fun x33 h => ?_)
        refine lv_iconst (v := 1) hx hb d_Ms_numberIn_36 (by decide) ?_
        refine lv_icmp_ne (tgt := 44) hx hb d_Ms_numberIn_37 (by decide) (fun hq => ?_) (fun hq => ?_)
        · rw [if_pos hq] at h
          refine lv_sipush (v := 256) hx hb d_Ms_numberIn_44 (by decide) ?_
          refine lv_iload_n hx hb d_Ms_numberIn_47 rfl (lv_at hl 0 rfl) ?_
          refine lv_imul hx hb d_Ms_numberIn_48 ?_
          refine lv_aload_n hx hb d_Ms_numberIn_49 rfl (lv_at hl 2 rfl) ?_
          refine lv_aload_n hx hb d_Ms_numberIn_50 rfl (lv_at hl 1 rfl) ?_
          refine ob_getI (k := 13) Cx hP ck_8 rfl w_f_Ms_110 d_Ms_numberIn_51 h (fun x51 h => ?_)
          refine lv_iconst (v := 1) hx hb d_Ms_numberIn_54 (by decide) ?_
          refine lv_iadd hx hb d_Ms_numberIn_55 ?_
          refine ob_cVi (nA := 1) (As := [.int (x51 + (1 : Int32))]) (rest := [.int ((256 : Int32) * x14)]) Cx hl.1 hP hS (fun o ho => c_By_byteOrBad v1 (x51 + (1 : Int32)) ho) (fun o ho => g_By_byteOrBad v1 (x51 + (1 : Int32)) ho) (by decide) (rfl : ob_cl[0]? = _) mv_By_byteOrBad w_m_Ms_127 rfl (by decide +kernel) ⟨rfl, rfl⟩ ⟨by decide, by decide⟩ (Nat.le_of_ble_eq_true rfl) rfl d_Ms_numberIn_56 h (fun x56 t56 H locs h hP hS => ?_)
          refine lv_iadd hx hb d_Ms_numberIn_59 ?_
          exact ob_iret Cx hP hS d_Ms_numberIn_60 h
        · rw [if_neg (fun z => z hq)] at h
          refine lv_iload_n hx hb d_Ms_numberIn_40 rfl (lv_at hl 0 rfl) ?_
          refine lv_goto (tgt := 60) hx hb d_Ms_numberIn_41 (by decide) ?_
          exact ob_iret Cx hP hS d_Ms_numberIn_60 h
      · rw [if_neg hq] at h
        exact tB_Ms_numberIn_30 Cx t14 H locs ls hP hS (lv_sub hl [] rfl) h
  · rw [if_neg (fun z => z hq)] at h
    refine lv_iconst (v := 0) hx hb d_Ms_numberIn_7 (by decide) ?_
    exact ob_iret Cx hP hS d_Ms_numberIn_8 h
set_option maxHeartbeats 4000000 in
set_option maxRecDepth 100000 in
theorem tB_Ms_keepSegment_28 {p : Program} {l : Launch} {e : Env} {R : Room} {s : State} {m : MethodId} {args : Array Value} {below : List Frame} {meth : Method} {c : Code} {b : Nat} {D : va_G} {cA : Nat → ClassId} {adK adV : Nat → Nat} {out : (Int32 × ob_S)} (Cx : ob_C p R s m args meth c cb_Ms_keepSegment 3 "ObservedBlocks$Message" (some .boolean) b D cA adK adV 2 52) : ∀ (t : ob_S) (H : Heap) (locs : List Loc) (ls : Array Slot) (v0 : Nat) (v1 : Nat) (s0 : Nat), ob_H b D cA t H → va_S (ob_A b) s.heap H locs → lv_has ls 3 [(0, .ref (b + v0)), (1, .ref (b + v1))] → B_Ms_keepSegment_28 v0 v1 s0 t = some out → W p l e R s m args below meth c H locs 0 0 (MQ below (ob_Qi b D cA out) args s 0 0 (ob_A b)) (F0 m 28 ls [.ref (b + s0)]) := by
  have hx := Cx.1.1
  have hb := Cx.1.2.1
  intro t H locs ls v0 v1 s0 hP hS hl h
  unfold B_Ms_keepSegment_28 at h
  refine lv_astore_n (lv' := [(2, .ref (b + s0)), (0, .ref (b + v0)), (1, .ref (b + v1))]) hx hb d_Ms_keepSegment_28 rfl hl (by decide) rfl (fun ls hl => ?_)
  refine lv_aload_n hx hb d_Ms_keepSegment_29 rfl (lv_at hl 0 rfl) ?_
  refine lv_aload_n hx hb d_Ms_keepSegment_30 rfl (lv_at hl 2 rfl) ?_
  refine lv_aload_n hx hb d_Ms_keepSegment_31 rfl (lv_at hl 1 rfl) ?_
  refine ob_getI (k := 13) Cx hP ck_8 rfl w_f_Ms_110 d_Ms_keepSegment_32 h (fun x32 h => ?_)
  refine lv_aload_n hx hb d_Ms_keepSegment_35 rfl (lv_at hl 1 rfl) ?_
  refine ob_getI (k := 14) Cx hP ck_8 rfl w_f_Ms_107 d_Ms_keepSegment_36 h (fun x36 h => ?_)
  refine ob_cVv (nA := 3) (As := [.ref (b + v1), .int x32, .int x36]) (rest := []) Cx hl.1 hP hS (fun o ho => c_By_addFrom s0 v1 x32 x36 ho) (fun o ho => g_By_addFrom s0 v1 x32 x36 ho) (by decide) (rfl : ob_cl[0]? = _) mv_By_addFrom w_m_Ms_123 rfl (by decide +kernel) ⟨rfl, rfl⟩ ⟨by decide, by decide⟩ (Nat.le_of_ble_eq_true rfl) rfl d_Ms_keepSegment_39 h (fun t39 H locs h hP hS => ?_)
  refine lv_aload_n hx hb d_Ms_keepSegment_42 rfl (lv_at hl 1 rfl) ?_
  refine lv_dup hx hb d_Ms_keepSegment_43 rfl ?_
  refine ob_getI (k := 7) Cx hP ck_8 rfl w_f_Ms_43 d_Ms_keepSegment_44 h (fun x44 h => ?_)
  refine lv_iconst (v := 1) hx hb d_Ms_keepSegment_47 (by decide) ?_
  refine lv_iadd hx hb d_Ms_keepSegment_48 ?_
  refine ob_putI (k := 7) Cx hP hS ck_8 rfl rfl rfl w_f_Ms_43 d_Ms_keepSegment_49 h (fun t49 H locs h hP hS => ?_)
  refine lv_iconst (v := 1) hx hb d_Ms_keepSegment_52 (by decide) ?_
  exact ob_zret Cx hP hS d_Ms_keepSegment_53 h
theorem g_Ms_keepSegment (v0 : Nat) (v1 : Nat) {t : ob_S} {out : (Int32 × ob_S)} (h : X_Ms_keepSegment v0 v1 t = some out) : v0 < ob_n t ∧ ob_k t v0 = 8 := by
  unfold X_Ms_keepSegment ob_this at h
  by_cases q : v0 < ob_n t ∧ ob_k t v0 = 8
  · exact q
  · rw [if_neg q] at h
    cases h
set_option maxHeartbeats 4000000 in
set_option maxRecDepth 100000 in
theorem c_Ms_keepSegment {l : Launch} {b : Nat} {D : va_G} {cA : Nat → ClassId} {adK adV : Nat → Nat} (v0 : Nat) (v1 : Nat) {t : ob_S} {out : (Int32 × ob_S)} (h : X_Ms_keepSegment v0 v1 t = some out) : Met l y_Ms_keepSegment (Cond.code y_Ms_keepSegment cb_Ms_keepSegment 3 (some .boolean) :: ob_T) { frames := 2, cells := 0, slots := 0, locals := 52 } (ob_Pre b D cA adK adV [.ref (b + v0), .ref (b + v1)] t) (ob_Qi b D cA out) 0 0 (ob_A b) := by
  refine ob_met (by decide) (Nat.le_of_ble_eq_true rfl) ?_
  intro p e R s m args below meth c ls Cx hP hS hl
  have hl : lv_has ls 3 [(0, .ref (b + v0)), (1, .ref (b + v1))] := hl
  have hx := Cx.1.1
  have hb := Cx.1.2.1
  have hg := g_Ms_keepSegment v0 v1 h
  unfold X_Ms_keepSegment ob_this at h
  rw [if_pos hg] at h
  obtain ⟨H, hH⟩ : ∃ H, H = s.heap := ⟨_, rfl⟩
  obtain ⟨locs, hL⟩ : ∃ locs : List Loc, locs = [] := ⟨_, rfl⟩
  rw [← hH] at hP
  have hS : va_S (ob_A b) s.heap H locs := by rw [hH, hL]; exact hS
  suffices hW : W p l e R s m args below meth c H locs 0 0 (MQ below (ob_Qi b D cA out) args s 0 0 (ob_A b)) (F0 m 0 ls []) by rw [hH, hL] at hW; exact hW
  refine lv_aload_n hx hb d_Ms_keepSegment_0 rfl (lv_at hl 0 rfl) ?_
  refine ob_getI (k := 7) Cx hP ck_8 rfl w_f_Ms_43 d_Ms_keepSegment_1 h (fun x1 h => ?_)
  refine lv_iconst (v := 2) hx hb d_Ms_keepSegment_4 (by decide) ?_
  refine lv_icmp_ne (tgt := 10) hx hb d_Ms_keepSegment_5 (by decide) (fun hq => ?_) (fun hq => ?_)
  · rw [if_pos hq] at h
    refine lv_aload_n hx hb d_Ms_keepSegment_10 rfl (lv_at hl 0 rfl) ?_
    refine ob_getI (k := 7) Cx hP ck_8 rfl w_f_Ms_43 d_Ms_keepSegment_11 h (fun x11 h => ?_)
    refine lv_if_ne (tgt := 24) hx hb d_Ms_keepSegment_14 (by decide) (fun hq => ?_) (fun hq => ?_)
    · rw [if_pos hq] at h
      refine lv_aload_n hx hb d_Ms_keepSegment_24 rfl (lv_at hl 0 rfl) ?_
      refine ob_getR (k := 9) Cx hP ck_8 rfl w_f_Ms_20 d_Ms_keepSegment_25 h (fun n25 h => ?_)
      exact tB_Ms_keepSegment_28 Cx t H locs ls v0 v1 n25 hP hS (lv_sub hl [0, 1] rfl) h
    · rw [if_neg (fun z => z hq)] at h
      refine lv_aload_n hx hb d_Ms_keepSegment_17 rfl (lv_at hl 0 rfl) ?_
      refine ob_getR (k := 8) Cx hP ck_8 rfl w_f_Ms_14 d_Ms_keepSegment_18 h (fun n18 h => ?_)
      refine lv_goto (tgt := 28) hx hb d_Ms_keepSegment_21 (by decide) ?_
      exact tB_Ms_keepSegment_28 Cx t H locs ls v0 v1 n18 hP hS (lv_sub hl [0, 1] rfl) h
  · rw [if_neg (fun z => z hq)] at h
    refine lv_iconst (v := 0) hx hb d_Ms_keepSegment_8 (by decide) ?_
    exact ob_zret Cx hP hS d_Ms_keepSegment_9 h
set_option maxHeartbeats 4000000 in
set_option maxRecDepth 100000 in
theorem c_Ob_szxOf {l : Launch} {b : Nat} {D : va_G} {cA : Nat → ClassId} {adK adV : Nat → Nat} (v0 : Int32) {t : ob_S} {out : (Int32 × ob_S)} (h : X_Ob_szxOf v0 t = some out) : Met l y_Ob_szxOf (Cond.code y_Ob_szxOf cb_Ob_szxOf 1 (some .int) :: ob_T) { frames := 0, cells := 0, slots := 0, locals := 0 } (ob_Pre b D cA adK adV [.int v0] t) (ob_Qi b D cA out) 0 0 (ob_A b) := by
  refine ob_met (by decide) (Nat.le_of_ble_eq_true rfl) ?_
  intro p e R s m args below meth c ls Cx hP hS hl
  have hl : lv_has ls 1 [(0, .int v0)] := hl
  have hx := Cx.1.1
  have hb := Cx.1.2.1
  unfold X_Ob_szxOf at h
  obtain ⟨H, hH⟩ : ∃ H, H = s.heap := ⟨_, rfl⟩
  obtain ⟨locs, hL⟩ : ∃ locs : List Loc, locs = [] := ⟨_, rfl⟩
  rw [← hH] at hP
  have hS : va_S (ob_A b) s.heap H locs := by rw [hH, hL]; exact hS
  suffices hW : W p l e R s m args below meth c H locs 0 0 (MQ below (ob_Qi b D cA out) args s 0 0 (ob_A b)) (F0 m 0 ls []) by rw [hH, hL] at hW; exact hW
  refine lv_iload_n hx hb d_Ob_szxOf_0 rfl (lv_at hl 0 rfl) ?_
  refine lv_bipush (v := 7) hx hb d_Ob_szxOf_1 (by decide) ?_
  refine lv_iand hx hb d_Ob_szxOf_3 ?_
  exact ob_iret Cx hP hS d_Ob_szxOf_4 h
set_option maxHeartbeats 4000000 in
set_option maxRecDepth 100000 in
theorem tB_Ms_isBlock_24 {p : Program} {l : Launch} {e : Env} {R : Room} {s : State} {m : MethodId} {args : Array Value} {below : List Frame} {meth : Method} {c : Code} {b : Nat} {D : va_G} {cA : Nat → ClassId} {adK adV : Nat → Nat} {out : (Int32 × ob_S)} (Cx : ob_C p R s m args meth c cb_Ms_isBlock 1 "ObservedBlocks$Message" (some .boolean) b D cA adK adV 1 20) : ∀ (t : ob_S) (H : Heap) (locs : List Loc) (ls : Array Slot), ob_H b D cA t H → va_S (ob_A b) s.heap H locs → lv_has ls 1 [] → B_Ms_isBlock_24 t = some out → W p l e R s m args below meth c H locs 0 0 (MQ below (ob_Qi b D cA out) args s 0 0 (ob_A b)) (F0 m 24 ls []) := by
  have hx := Cx.1.1
  have hb := Cx.1.2.1
  intro t H locs ls  hP hS hl h
  unfold B_Ms_isBlock_24 at h
  refine lv_iconst (v := 0) hx hb d_Ms_isBlock_24 (by decide) ?_
  exact ob_zret Cx hP hS d_Ms_isBlock_25 h
set_option maxHeartbeats 4000000 in
set_option maxRecDepth 100000 in
theorem c_Ms_isBlock {l : Launch} {b : Nat} {D : va_G} {cA : Nat → ClassId} {adK adV : Nat → Nat} (v0 : Int32) {t : ob_S} {out : (Int32 × ob_S)} (h : X_Ms_isBlock v0 t = some out) : Met l y_Ms_isBlock (Cond.code y_Ms_isBlock cb_Ms_isBlock 1 (some .boolean) :: ob_T) { frames := 1, cells := 0, slots := 0, locals := 20 } (ob_Pre b D cA adK adV [.int v0] t) (ob_Qi b D cA out) 0 0 (ob_A b) := by
  refine ob_met (by decide) (Nat.le_of_ble_eq_true rfl) ?_
  intro p e R s m args below meth c ls Cx hP hS hl
  have hl : lv_has ls 1 [(0, .int v0)] := hl
  have hx := Cx.1.1
  have hb := Cx.1.2.1
  unfold X_Ms_isBlock at h
  obtain ⟨H, hH⟩ : ∃ H, H = s.heap := ⟨_, rfl⟩
  obtain ⟨locs, hL⟩ : ∃ locs : List Loc, locs = [] := ⟨_, rfl⟩
  rw [← hH] at hP
  have hS : va_S (ob_A b) s.heap H locs := by rw [hH, hL]; exact hS
  suffices hW : W p l e R s m args below meth c H locs 0 0 (MQ below (ob_Qi b D cA out) args s 0 0 (ob_A b)) (F0 m 0 ls []) by rw [hH, hL] at hW; exact hW
  refine lv_iload_n hx hb d_Ms_isBlock_0 rfl (lv_at hl 0 rfl) ?_
  refine lv_iconst (v := -1) hx hb d_Ms_isBlock_1 (by decide) ?_
  refine lv_icmp_eq (tgt := 24) hx hb d_Ms_isBlock_2 (by decide) (fun hq => ?_) (fun hq => ?_)
  · rw [if_pos hq] at h
    exact tB_Ms_isBlock_24 Cx t H locs ls hP hS (lv_sub hl [] rfl) h
  · rw [if_neg hq] at h
    refine lv_iload_n hx hb d_Ms_isBlock_5 rfl (lv_at hl 0 rfl) ?_
    refine lv_sipush (v := 1023) hx hb d_Ms_isBlock_6 (by decide) ?_
    refine lv_icmp_gt (tgt := 24) hx hb d_Ms_isBlock_9 (by decide) (fun hq => ?_) (fun hq => ?_)
    · rw [if_pos hq] at h
      exact tB_Ms_isBlock_24 Cx t H locs ls hP hS (lv_sub hl [] rfl) h
    · rw [if_neg hq] at h
      refine lv_iload_n hx hb d_Ms_isBlock_12 rfl (lv_at hl 0 rfl) ?_
      refine ob_cNi (nA := 1) (As := [.int v0]) (rest := []) Cx hl.1 hP hS (fun o ho => c_Ob_szxOf v0 ho) ms_Ob_szxOf w_n_Ms_131 rfl (by decide +kernel) ⟨rfl, rfl⟩ ⟨by decide, by decide⟩ (Nat.le_of_ble_eq_true rfl) rfl d_Ms_isBlock_13 h (fun x13 t13 H locs h hP hS => ?_)
      refine lv_iconst (v := 1) hx hb d_Ms_isBlock_16 (by decide) ?_
      refine lv_icmp_gt (tgt := 24) hx hb d_Ms_isBlock_17 (by decide) (fun hq => ?_) (fun hq => ?_)
      · rw [if_pos hq] at h
        exact tB_Ms_isBlock_24 Cx t13 H locs ls hP hS (lv_sub hl [] rfl) h
      · rw [if_neg hq] at h
        refine lv_iconst (v := 1) hx hb d_Ms_isBlock_20 (by decide) ?_
        refine lv_goto (tgt := 25) hx hb d_Ms_isBlock_21 (by decide) ?_
        exact ob_zret Cx hP hS d_Ms_isBlock_25 h
theorem g_Ms_keepValue (v0 : Nat) (v1 : Nat) {t : ob_S} {out : (Int32 × ob_S)} (h : X_Ms_keepValue v0 v1 t = some out) : v0 < ob_n t ∧ ob_k t v0 = 8 := by
  unfold X_Ms_keepValue ob_this at h
  by_cases q : v0 < ob_n t ∧ ob_k t v0 = 8
  · exact q
  · rw [if_neg q] at h
    cases h
set_option maxHeartbeats 4000000 in
set_option maxRecDepth 100000 in
theorem c_Ms_keepValue {l : Launch} {b : Nat} {D : va_G} {cA : Nat → ClassId} {adK adV : Nat → Nat} (v0 : Nat) (v1 : Nat) {t : ob_S} {out : (Int32 × ob_S)} (h : X_Ms_keepValue v0 v1 t = some out) : Met l y_Ms_keepValue (Cond.code y_Ms_keepValue cb_Ms_keepValue 2 (some .boolean) :: ob_T) { frames := 3, cells := 0, slots := 0, locals := 74 } (ob_Pre b D cA adK adV [.ref (b + v0), .ref (b + v1)] t) (ob_Qi b D cA out) 0 0 (ob_A b) := by
  refine ob_met (by decide) (Nat.le_of_ble_eq_true rfl) ?_
  intro p e R s m args below meth c ls Cx hP hS hl
  have hl : lv_has ls 2 [(0, .ref (b + v0)), (1, .ref (b + v1))] := hl
  have hx := Cx.1.1
  have hb := Cx.1.2.1
  have hg := g_Ms_keepValue v0 v1 h
  unfold X_Ms_keepValue ob_this at h
  rw [if_pos hg] at h
  obtain ⟨H, hH⟩ : ∃ H, H = s.heap := ⟨_, rfl⟩
  obtain ⟨locs, hL⟩ : ∃ locs : List Loc, locs = [] := ⟨_, rfl⟩
  rw [← hH] at hP
  have hS : va_S (ob_A b) s.heap H locs := by rw [hH, hL]; exact hS
  suffices hW : W p l e R s m args below meth c H locs 0 0 (MQ below (ob_Qi b D cA out) args s 0 0 (ob_A b)) (F0 m 0 ls []) by rw [hH, hL] at hW; exact hW
  refine lv_aload_n hx hb d_Ms_keepValue_0 rfl (lv_at hl 0 rfl) ?_
  refine ob_getI (k := 12) Cx hP ck_8 rfl w_f_Ms_91 d_Ms_keepValue_1 h (fun x1 h => ?_)
  by_cases hc4_0 : x1 = (6 : Int32)
  · rw [if_pos hc4_0] at h
    refine lv_lookup (tgt := 48) (off := 44) hx hb d_Ms_keepValue_4 (by decide) (by rw [hc4_0]; decide) (by decide) ?_
    refine lv_aload_n hx hb d_Ms_keepValue_48 rfl (lv_at hl 0 rfl) ?_
    refine lv_aload_n hx hb d_Ms_keepValue_49 rfl (lv_at hl 0 rfl) ?_
    refine lv_aload_n hx hb d_Ms_keepValue_50 rfl (lv_at hl 1 rfl) ?_
    refine ob_cVi (nA := 1) (As := [.ref (b + v1)]) (rest := [.ref (b + v0)]) Cx hl.1 hP hS (fun o ho => c_Ms_numberIn v0 v1 ho) (fun o ho => g_Ms_numberIn v0 v1 ho) (by decide) (rfl : ob_cl[8]? = _) mv_Ms_numberIn w_m_Ms_113 rfl (by decide +kernel) ⟨rfl, rfl⟩ ⟨by decide, by decide⟩ (Nat.le_of_ble_eq_true rfl) rfl d_Ms_keepValue_51 h (fun x51 t51 H locs h hP hS => ?_)
    refine ob_putI (k := 4) Cx hP hS ck_8 rfl rfl rfl w_f_Ms_79 d_Ms_keepValue_54 h (fun t54 H locs h hP hS => ?_)
    refine lv_aload_n hx hb d_Ms_keepValue_57 rfl (lv_at hl 0 rfl) ?_
    refine ob_getI (k := 4) Cx hP ck_8 rfl w_f_Ms_79 d_Ms_keepValue_58 h (fun x58 h => ?_)
    refine lv_iconst (v := -1) hx hb d_Ms_keepValue_61 (by decide) ?_
    refine lv_icmp_eq (tgt := 69) hx hb d_Ms_keepValue_62 (by decide) (fun hq => ?_) (fun hq => ?_)
    · rw [if_pos hq] at h
      refine lv_iconst (v := 0) hx hb d_Ms_keepValue_69 (by decide) ?_
      exact ob_zret Cx hP hS d_Ms_keepValue_70 h
    · rw [if_neg hq] at h
      refine lv_iconst (v := 1) hx hb d_Ms_keepValue_65 (by decide) ?_
      refine lv_goto (tgt := 70) hx hb d_Ms_keepValue_66 (by decide) ?_
      exact ob_zret Cx hP hS d_Ms_keepValue_70 h
  · rw [if_neg hc4_0] at h
    by_cases hc4_1 : x1 = (11 : Int32)
    · rw [if_pos hc4_1] at h
      refine lv_lookup (tgt := 71) (off := 67) hx hb d_Ms_keepValue_4 (by decide) (by rw [hc4_1]; decide) (by decide) ?_
      refine lv_aload_n hx hb d_Ms_keepValue_71 rfl (lv_at hl 0 rfl) ?_
      refine lv_aload_n hx hb d_Ms_keepValue_72 rfl (lv_at hl 1 rfl) ?_
      refine ob_cVi (nA := 1) (As := [.ref (b + v1)]) (rest := []) Cx hl.1 hP hS (fun o ho => c_Ms_keepSegment v0 v1 ho) (fun o ho => g_Ms_keepSegment v0 v1 ho) (by decide) (rfl : ob_cl[8]? = _) mv_Ms_keepSegment w_m_Ms_117 rfl (by decide +kernel) ⟨rfl, rfl⟩ ⟨by decide, by decide⟩ (Nat.le_of_ble_eq_true rfl) rfl d_Ms_keepValue_73 h (fun x73 t73 H locs h hP hS => ?_)
      exact ob_zret Cx hP hS d_Ms_keepValue_76 h
    · rw [if_neg hc4_1] at h
      by_cases hc4_2 : x1 = (23 : Int32)
      · rw [if_pos hc4_2] at h
        refine lv_lookup (tgt := 77) (off := 73) hx hb d_Ms_keepValue_4 (by decide) (by rw [hc4_2]; decide) (by decide) ?_
        refine lv_aload_n hx hb d_Ms_keepValue_77 rfl (lv_at hl 0 rfl) ?_
        refine lv_aload_n hx hb d_Ms_keepValue_78 rfl (lv_at hl 0 rfl) ?_
        refine lv_aload_n hx hb d_Ms_keepValue_79 rfl (lv_at hl 1 rfl) ?_
        refine ob_cVi (nA := 1) (As := [.ref (b + v1)]) (rest := [.ref (b + v0)]) Cx hl.1 hP hS (fun o ho => c_Ms_numberIn v0 v1 ho) (fun o ho => g_Ms_numberIn v0 v1 ho) (by decide) (rfl : ob_cl[8]? = _) mv_Ms_numberIn w_m_Ms_113 rfl (by decide +kernel) ⟨rfl, rfl⟩ ⟨by decide, by decide⟩ (Nat.le_of_ble_eq_true rfl) rfl d_Ms_keepValue_80 h (fun x80 t80 H locs h hP hS => ?_)
        refine ob_putI (k := 5) Cx hP hS ck_8 rfl rfl rfl w_f_Ms_82 d_Ms_keepValue_83 h (fun t83 H locs h hP hS => ?_)
        refine lv_aload_n hx hb d_Ms_keepValue_86 rfl (lv_at hl 0 rfl) ?_
        refine ob_getI (k := 5) Cx hP ck_8 rfl w_f_Ms_82 d_Ms_keepValue_87 h (fun x87 h => ?_)
        refine ob_cSi (nA := 1) (As := [.int x87]) (rest := []) Cx hl.1 hP hS (fun o ho => c_Ms_isBlock x87 ho) ms_Ms_isBlock w_m_Ms_120 rfl (by decide +kernel) ⟨rfl, rfl⟩ ⟨by decide, by decide⟩ (Nat.le_of_ble_eq_true rfl) rfl d_Ms_keepValue_90 h (fun x90 t90 H locs h hP hS => ?_)
        exact ob_zret Cx hP hS d_Ms_keepValue_93 h
      · rw [if_neg hc4_2] at h
        by_cases hc4_3 : x1 = (27 : Int32)
        · rw [if_pos hc4_3] at h
          refine lv_lookup (tgt := 94) (off := 90) hx hb d_Ms_keepValue_4 (by decide) (by rw [hc4_3]; decide) (by decide) ?_
          refine lv_aload_n hx hb d_Ms_keepValue_94 rfl (lv_at hl 0 rfl) ?_
          refine lv_aload_n hx hb d_Ms_keepValue_95 rfl (lv_at hl 0 rfl) ?_
          refine lv_aload_n hx hb d_Ms_keepValue_96 rfl (lv_at hl 1 rfl) ?_
          refine ob_cVi (nA := 1) (As := [.ref (b + v1)]) (rest := [.ref (b + v0)]) Cx hl.1 hP hS (fun o ho => c_Ms_numberIn v0 v1 ho) (fun o ho => g_Ms_numberIn v0 v1 ho) (by decide) (rfl : ob_cl[8]? = _) mv_Ms_numberIn w_m_Ms_113 rfl (by decide +kernel) ⟨rfl, rfl⟩ ⟨by decide, by decide⟩ (Nat.le_of_ble_eq_true rfl) rfl d_Ms_keepValue_97 h (fun x97 t97 H locs h hP hS => ?_)
          refine ob_putI (k := 6) Cx hP hS ck_8 rfl rfl rfl w_f_Ms_85 d_Ms_keepValue_100 h (fun t100 H locs h hP hS => ?_)
          refine lv_aload_n hx hb d_Ms_keepValue_103 rfl (lv_at hl 0 rfl) ?_
          refine ob_getI (k := 6) Cx hP ck_8 rfl w_f_Ms_85 d_Ms_keepValue_104 h (fun x104 h => ?_)
          refine ob_cSi (nA := 1) (As := [.int x104]) (rest := []) Cx hl.1 hP hS (fun o ho => c_Ms_isBlock x104 ho) ms_Ms_isBlock w_m_Ms_120 rfl (by decide +kernel) ⟨rfl, rfl⟩ ⟨by decide, by decide⟩ (Nat.le_of_ble_eq_true rfl) rfl d_Ms_keepValue_107 h (fun x107 t107 H locs h hP hS => ?_)
          exact ob_zret Cx hP hS d_Ms_keepValue_110 h
        · rw [if_neg hc4_3] at h
          refine lv_lookup (tgt := 111) (off := 107) hx hb d_Ms_keepValue_4 (by decide) (by rw [lv_osw hc4_0 (show ((6 : Int32)).toInt = 6 by decide), lv_osw hc4_1 (show ((11 : Int32)).toInt = 11 by decide), lv_osw hc4_2 (show ((23 : Int32)).toInt = 23 by decide), lv_osw hc4_3 (show ((27 : Int32)).toInt = 27 by decide)]; rfl) (by decide) ?_
          refine lv_iconst (v := 0) hx hb d_Ms_keepValue_111 (by decide) ?_
          exact ob_zret Cx hP hS d_Ms_keepValue_112 h
set_option maxHeartbeats 4000000 in
set_option maxRecDepth 100000 in
theorem tB_Ms_readOptions_42 {p : Program} {l : Launch} {e : Env} {R : Room} {s : State} {m : MethodId} {args : Array Value} {below : List Frame} {meth : Method} {c : Code} {b : Nat} {D : va_G} {cA : Nat → ClassId} {adK adV : Nat → Nat} {out : (Int32 × ob_S)} (Cx : ob_C p R s m args meth c cb_Ms_readOptions 4 "ObservedBlocks$Message" (some .boolean) b D cA adK adV 4 95) {k4 : Nat → Nat → Int32 → Int32 → ob_S → Option (Int32 × ob_S)} (hk4 : ∀ (t : ob_S) (H : Heap) (locs : List Loc) (ls : Array Slot) (v0 : Nat) (v1 : Nat) (v2 : Int32) (v3 : Int32), ob_H b D cA t H → va_S (ob_A b) s.heap H locs → lv_has ls 4 [(0, .ref (b + v0)), (1, .ref (b + v1)), (2, .int v2), (3, .int v3)] → k4 v0 v1 v2 v3 t = some out → W p l e R s m args below meth c H locs 0 0 (MQ below (ob_Qi b D cA out) args s 0 0 (ob_A b)) (F0 m 4 ls [])) : ∀ (t : ob_S) (H : Heap) (locs : List Loc) (ls : Array Slot) (v0 : Nat) (v1 : Nat) (v3 : Int32) (s0 : Int32), ob_H b D cA t H → va_S (ob_A b) s.heap H locs → lv_has ls 4 [(0, .ref (b + v0)), (1, .ref (b + v1)), (3, .int v3)] → B_Ms_readOptions_42 k4 v0 v1 v3 s0 t = some out → W p l e R s m args below meth c H locs 0 0 (MQ below (ob_Qi b D cA out) args s 0 0 (ob_A b)) (F0 m 42 ls [.int s0]) := by
  have hx := Cx.1.1
  have hb := Cx.1.2.1
  intro t H locs ls v0 v1 v3 s0 hP hS hl h
  unfold B_Ms_readOptions_42 at h
  refine lv_istore_n (lv' := [(2, .int s0), (0, .ref (b + v0)), (1, .ref (b + v1)), (3, .int v3)]) hx hb d_Ms_readOptions_42 rfl hl (by decide) rfl (fun ls hl => ?_)
  refine lv_iinc (v := (v3 + (1 : Int32))) (lv' := [(3, .int (v3 + (1 : Int32))), (2, .int s0), (0, .ref (b + v0)), (1, .ref (b + v1))]) hx hb d_Ms_readOptions_43 hl (k := 3) rfl rfl (by decide) rfl (fun ls hl => ?_)
  refine lv_goto (tgt := 4) hx hb d_Ms_readOptions_46 (by decide) ?_
  exact hk4 t H locs ls v0 v1 s0 (v3 + (1 : Int32)) hP hS (lv_sub hl [2, 3, 1, 0] rfl) h
set_option maxHeartbeats 4000000 in
set_option maxRecDepth 100000 in
theorem tB_Ms_readOptions_41 {p : Program} {l : Launch} {e : Env} {R : Room} {s : State} {m : MethodId} {args : Array Value} {below : List Frame} {meth : Method} {c : Code} {b : Nat} {D : va_G} {cA : Nat → ClassId} {adK adV : Nat → Nat} {out : (Int32 × ob_S)} (Cx : ob_C p R s m args meth c cb_Ms_readOptions 4 "ObservedBlocks$Message" (some .boolean) b D cA adK adV 4 95) {k4 : Nat → Nat → Int32 → Int32 → ob_S → Option (Int32 × ob_S)} (hk4 : ∀ (t : ob_S) (H : Heap) (locs : List Loc) (ls : Array Slot) (v0 : Nat) (v1 : Nat) (v2 : Int32) (v3 : Int32), ob_H b D cA t H → va_S (ob_A b) s.heap H locs → lv_has ls 4 [(0, .ref (b + v0)), (1, .ref (b + v1)), (2, .int v2), (3, .int v3)] → k4 v0 v1 v2 v3 t = some out → W p l e R s m args below meth c H locs 0 0 (MQ below (ob_Qi b D cA out) args s 0 0 (ob_A b)) (F0 m 4 ls [])) : ∀ (t : ob_S) (H : Heap) (locs : List Loc) (ls : Array Slot) (v0 : Nat) (v1 : Nat) (v3 : Int32), ob_H b D cA t H → va_S (ob_A b) s.heap H locs → lv_has ls 4 [(0, .ref (b + v0)), (1, .ref (b + v1)), (3, .int v3)] → B_Ms_readOptions_41 k4 v0 v1 v3 t = some out → W p l e R s m args below meth c H locs 0 0 (MQ below (ob_Qi b D cA out) args s 0 0 (ob_A b)) (F0 m 41 ls []) := by
  have hx := Cx.1.1
  have hb := Cx.1.2.1
  intro t H locs ls v0 v1 v3 hP hS hl h
  unfold B_Ms_readOptions_41 at h
  refine lv_iconst (v := 0) hx hb d_Ms_readOptions_41 (by decide) ?_
  exact tB_Ms_readOptions_42 Cx hk4 t H locs ls v0 v1 v3 (0 : Int32) hP hS (lv_sub hl [0, 1, 2] rfl) h
set_option maxHeartbeats 4000000 in
set_option maxRecDepth 100000 in
theorem tB_Ms_readOptions_65 {p : Program} {l : Launch} {e : Env} {R : Room} {s : State} {m : MethodId} {args : Array Value} {below : List Frame} {meth : Method} {c : Code} {b : Nat} {D : va_G} {cA : Nat → ClassId} {adK adV : Nat → Nat} {out : (Int32 × ob_S)} (Cx : ob_C p R s m args meth c cb_Ms_readOptions 4 "ObservedBlocks$Message" (some .boolean) b D cA adK adV 4 95) : ∀ (t : ob_S) (H : Heap) (locs : List Loc) (ls : Array Slot), ob_H b D cA t H → va_S (ob_A b) s.heap H locs → lv_has ls 4 [] → B_Ms_readOptions_65 t = some out → W p l e R s m args below meth c H locs 0 0 (MQ below (ob_Qi b D cA out) args s 0 0 (ob_A b)) (F0 m 65 ls []) := by
  have hx := Cx.1.1
  have hb := Cx.1.2.1
  intro t H locs ls  hP hS hl h
  unfold B_Ms_readOptions_65 at h
  refine lv_iconst (v := 0) hx hb d_Ms_readOptions_65 (by decide) ?_
  exact ob_zret Cx hP hS d_Ms_readOptions_66 h
set_option maxHeartbeats 4000000 in
set_option maxRecDepth 100000 in
theorem tB_Ms_readOptions_49 {p : Program} {l : Launch} {e : Env} {R : Room} {s : State} {m : MethodId} {args : Array Value} {below : List Frame} {meth : Method} {c : Code} {b : Nat} {D : va_G} {cA : Nat → ClassId} {adK adV : Nat → Nat} {out : (Int32 × ob_S)} (Cx : ob_C p R s m args meth c cb_Ms_readOptions 4 "ObservedBlocks$Message" (some .boolean) b D cA adK adV 4 95) : ∀ (t : ob_S) (H : Heap) (locs : List Loc) (ls : Array Slot) (v0 : Nat) (v1 : Nat) (v2 : Int32), ob_H b D cA t H → va_S (ob_A b) s.heap H locs → lv_has ls 4 [(0, .ref (b + v0)), (1, .ref (b + v1)), (2, .int v2)] → B_Ms_readOptions_49 v0 v1 v2 t = some out → W p l e R s m args below meth c H locs 0 0 (MQ below (ob_Qi b D cA out) args s 0 0 (ob_A b)) (F0 m 49 ls []) := by
  have hx := Cx.1.1
  have hb := Cx.1.2.1
  intro t H locs ls v0 v1 v2 hP hS hl h
  unfold B_Ms_readOptions_49 at h
  refine lv_iload_n hx hb d_Ms_readOptions_49 rfl (lv_at hl 2 rfl) ?_
  refine lv_if_eq (tgt := 65) hx hb d_Ms_readOptions_50 (by decide) (fun hq => ?_) (fun hq => ?_)
  · rw [if_pos hq] at h
    exact tB_Ms_readOptions_65 Cx t H locs ls hP hS (lv_sub hl [] rfl) h
  · rw [if_neg hq] at h
    refine lv_aload_n hx hb d_Ms_readOptions_53 rfl (lv_at hl 0 rfl) ?_
    refine lv_aload_n hx hb d_Ms_readOptions_54 rfl (lv_at hl 1 rfl) ?_
    refine ob_cVi (nA := 1) (As := [.ref (b + v1)]) (rest := []) Cx hl.1 hP hS (fun o ho => c_Ms_isAtOption v0 v1 ho) (fun o ho => g_Ms_isAtOption v0 v1 ho) (by decide) (rfl : ob_cl[8]? = _) mv_Ms_isAtOption w_m_Ms_94 rfl (by decide +kernel) ⟨rfl, rfl⟩ ⟨by decide, by decide⟩ (Nat.le_of_ble_eq_true rfl) rfl d_Ms_readOptions_55 h (fun x55 t55 H locs h hP hS => ?_)
    refine lv_if_ne (tgt := 65) hx hb d_Ms_readOptions_58 (by decide) (fun hq => ?_) (fun hq => ?_)
    · rw [if_pos hq] at h
      exact tB_Ms_readOptions_65 Cx t55 H locs ls hP hS (lv_sub hl [] rfl) h
    · rw [if_neg (fun z => z hq)] at h
      refine lv_iconst (v := 1) hx hb d_Ms_readOptions_61 (by decide) ?_
      refine lv_goto (tgt := 66) hx hb d_Ms_readOptions_62 (by decide) ?_
      exact ob_zret Cx hP hS d_Ms_readOptions_66 h
set_option maxHeartbeats 4000000 in
set_option maxRecDepth 100000 in
theorem tB_Ms_readOptions_4 {p : Program} {l : Launch} {e : Env} {R : Room} {s : State} {m : MethodId} {args : Array Value} {below : List Frame} {meth : Method} {c : Code} {b : Nat} {D : va_G} {cA : Nat → ClassId} {adK adV : Nat → Nat} {out : (Int32 × ob_S)} (Cx : ob_C p R s m args meth c cb_Ms_readOptions 4 "ObservedBlocks$Message" (some .boolean) b D cA adK adV 4 95) : ∀ (fu : Nat), ∀ (t : ob_S) (H : Heap) (locs : List Loc) (ls : Array Slot) (v0 : Nat) (v1 : Nat) (v2 : Int32) (v3 : Int32), ob_H b D cA t H → va_S (ob_A b) s.heap H locs → lv_has ls 4 [(0, .ref (b + v0)), (1, .ref (b + v1)), (2, .int v2), (3, .int v3)] → B_Ms_readOptions_4 fu v0 v1 v2 v3 t = some out → W p l e R s m args below meth c H locs 0 0 (MQ below (ob_Qi b D cA out) args s 0 0 (ob_A b)) (F0 m 4 ls []) := by
  have hx := Cx.1.1
  have hb := Cx.1.2.1
  intro fu
  induction fu with
  | zero =>
    intro t H locs ls v0 v1 v2 v3 hP hS hl h
    cases h
  | succ fu ih =>
    intro t H locs ls v0 v1 v2 v3 hP hS hl h
    rw [B_Ms_readOptions_4] at h
    refine lv_iload_n hx hb d_Ms_readOptions_4 rfl (lv_at hl 2 rfl) ?_
    refine lv_if_eq (tgt := 49) hx hb d_Ms_readOptions_5 (by decide) (fun hq => ?_) (fun hq => ?_)
    · rw [if_pos hq] at h
      exact tB_Ms_readOptions_49 Cx t H locs ls v0 v1 v2 hP hS (lv_sub hl [0, 1, 2] rfl) h
    · rw [if_neg hq] at h
      refine lv_iload_n hx hb d_Ms_readOptions_8 rfl (lv_at hl 3 rfl) ?_
      refine lv_iconst (v := 5) hx hb d_Ms_readOptions_9 (by decide) ?_
      refine lv_icmp_ge (tgt := 49) hx hb d_Ms_readOptions_10 (by decide) (fun hq => ?_) (fun hq => ?_)
      · rw [if_pos hq] at h
        exact tB_Ms_readOptions_49 Cx t H locs ls v0 v1 v2 hP hS (lv_sub hl [0, 1, 2] rfl) h
      · rw [if_neg hq] at h
        refine lv_aload_n hx hb d_Ms_readOptions_13 rfl (lv_at hl 0 rfl) ?_
        refine lv_aload_n hx hb d_Ms_readOptions_14 rfl (lv_at hl 1 rfl) ?_
        refine ob_cVi (nA := 1) (As := [.ref (b + v1)]) (rest := []) Cx hl.1 hP hS (fun o ho => c_Ms_isAtOption v0 v1 ho) (fun o ho => g_Ms_isAtOption v0 v1 ho) (by decide) (rfl : ob_cl[8]? = _) mv_Ms_isAtOption w_m_Ms_94 rfl (by decide +kernel) ⟨rfl, rfl⟩ ⟨by decide, by decide⟩ (Nat.le_of_ble_eq_true rfl) rfl d_Ms_readOptions_15 h (fun x15 t15 H locs h hP hS => ?_)
        refine lv_if_eq (tgt := 49) hx hb d_Ms_readOptions_18 (by decide) (fun hq => ?_) (fun hq => ?_)
        · rw [if_pos hq] at h
          exact tB_Ms_readOptions_49 Cx t15 H locs ls v0 v1 v2 hP hS (lv_sub hl [0, 1, 2] rfl) h
        · rw [if_neg hq] at h
          refine lv_aload_n hx hb d_Ms_readOptions_21 rfl (lv_at hl 0 rfl) ?_
          refine lv_aload_n hx hb d_Ms_readOptions_22 rfl (lv_at hl 1 rfl) ?_
          refine ob_cVi (nA := 1) (As := [.ref (b + v1)]) (rest := []) Cx hl.1 hP hS (fun o ho => c_Ms_readHead v0 v1 ho) (fun o ho => g_Ms_readHead v0 v1 ho) (by decide) (rfl : ob_cl[8]? = _) mv_Ms_readHead w_m_Ms_97 rfl (by decide +kernel) ⟨rfl, rfl⟩ ⟨by decide, by decide⟩ (Nat.le_of_ble_eq_true rfl) rfl d_Ms_readOptions_23 h (fun x23 t23 H locs h hP hS => ?_)
          refine lv_if_eq (tgt := 41) hx hb d_Ms_readOptions_26 (by decide) (fun hq => ?_) (fun hq => ?_)
          · rw [if_pos hq] at h
            exact tB_Ms_readOptions_41 Cx ih t23 H locs ls v0 v1 v3 hP hS (lv_sub hl [0, 1, 3] rfl) h
          · rw [if_neg hq] at h
            refine lv_aload_n hx hb d_Ms_readOptions_29 rfl (lv_at hl 0 rfl) ?_
            refine lv_aload_n hx hb d_Ms_readOptions_30 rfl (lv_at hl 1 rfl) ?_
            refine ob_cVi (nA := 1) (As := [.ref (b + v1)]) (rest := []) Cx hl.1 hP hS (fun o ho => c_Ms_keepValue v0 v1 ho) (fun o ho => g_Ms_keepValue v0 v1 ho) (by decide) (rfl : ob_cl[8]? = _) mv_Ms_keepValue w_m_Ms_100 rfl (by decide +kernel) ⟨rfl, rfl⟩ ⟨by decide, by decide⟩ (Nat.le_of_ble_eq_true rfl) rfl d_Ms_readOptions_31 h (fun x31 t31 H locs h hP hS => ?_)
            refine lv_if_eq (tgt := 41) hx hb d_Ms_readOptions_34 (by decide) (fun hq => ?_) (fun hq => ?_)
            · rw [if_pos hq] at h
              exact tB_Ms_readOptions_41 Cx ih t31 H locs ls v0 v1 v3 hP hS (lv_sub hl [0, 1, 3] rfl) h
            · rw [if_neg hq] at h
              refine lv_iconst (v := 1) hx hb d_Ms_readOptions_37 (by decide) ?_
              refine lv_goto (tgt := 42) hx hb d_Ms_readOptions_38 (by decide) ?_
              exact tB_Ms_readOptions_42 Cx ih t31 H locs ls v0 v1 v3 (1 : Int32) hP hS (lv_sub hl [0, 1, 3] rfl) h
theorem g_Ms_readOptions (v0 : Nat) (v1 : Nat) {t : ob_S} {out : (Int32 × ob_S)} (h : X_Ms_readOptions v0 v1 t = some out) : v0 < ob_n t ∧ ob_k t v0 = 8 := by
  unfold X_Ms_readOptions ob_this at h
  by_cases q : v0 < ob_n t ∧ ob_k t v0 = 8
  · exact q
  · rw [if_neg q] at h
    cases h
set_option maxHeartbeats 4000000 in
set_option maxRecDepth 100000 in
theorem c_Ms_readOptions {l : Launch} {b : Nat} {D : va_G} {cA : Nat → ClassId} {adK adV : Nat → Nat} (v0 : Nat) (v1 : Nat) {t : ob_S} {out : (Int32 × ob_S)} (h : X_Ms_readOptions v0 v1 t = some out) : Met l y_Ms_readOptions (Cond.code y_Ms_readOptions cb_Ms_readOptions 4 (some .boolean) :: ob_T) { frames := 4, cells := 0, slots := 0, locals := 95 } (ob_Pre b D cA adK adV [.ref (b + v0), .ref (b + v1)] t) (ob_Qi b D cA out) 0 0 (ob_A b) := by
  refine ob_met (by decide) (Nat.le_of_ble_eq_true rfl) ?_
  intro p e R s m args below meth c ls Cx hP hS hl
  have hl : lv_has ls 4 [(0, .ref (b + v0)), (1, .ref (b + v1))] := hl
  have hx := Cx.1.1
  have hb := Cx.1.2.1
  have hg := g_Ms_readOptions v0 v1 h
  unfold X_Ms_readOptions ob_this at h
  rw [if_pos hg] at h
  obtain ⟨H, hH⟩ : ∃ H, H = s.heap := ⟨_, rfl⟩
  obtain ⟨locs, hL⟩ : ∃ locs : List Loc, locs = [] := ⟨_, rfl⟩
  rw [← hH] at hP
  have hS : va_S (ob_A b) s.heap H locs := by rw [hH, hL]; exact hS
  suffices hW : W p l e R s m args below meth c H locs 0 0 (MQ below (ob_Qi b D cA out) args s 0 0 (ob_A b)) (F0 m 0 ls []) by rw [hH, hL] at hW; exact hW
  refine lv_iconst (v := 1) hx hb d_Ms_readOptions_0 (by decide) ?_
  refine lv_istore_n (lv' := [(2, .int (1 : Int32)), (0, .ref (b + v0)), (1, .ref (b + v1))]) hx hb d_Ms_readOptions_1 rfl hl (by decide) rfl (fun ls hl => ?_)
  refine lv_iconst (v := 0) hx hb d_Ms_readOptions_2 (by decide) ?_
  refine lv_istore_n (lv' := [(3, .int (0 : Int32)), (2, .int (1 : Int32)), (0, .ref (b + v0)), (1, .ref (b + v1))]) hx hb d_Ms_readOptions_3 rfl hl (by decide) rfl (fun ls hl => ?_)
  exact tB_Ms_readOptions_4 Cx ob_fu t H locs ls v0 v1 (1 : Int32) (0 : Int32) hP hS (lv_sub hl [2, 3, 1, 0] rfl) h
set_option maxHeartbeats 4000000 in
set_option maxRecDepth 100000 in
theorem tB_Ms_readPayload_54 {p : Program} {l : Launch} {e : Env} {R : Room} {s : State} {m : MethodId} {args : Array Value} {below : List Frame} {meth : Method} {c : Code} {b : Nat} {D : va_G} {cA : Nat → ClassId} {adK adV : Nat → Nat} {out : (Int32 × ob_S)} (Cx : ob_C p R s m args meth c cb_Ms_readPayload 3 "ObservedBlocks$Message" (some .boolean) b D cA adK adV 2 52) : ∀ (t : ob_S) (H : Heap) (locs : List Loc) (ls : Array Slot), ob_H b D cA t H → va_S (ob_A b) s.heap H locs → lv_has ls 3 [] → B_Ms_readPayload_54 t = some out → W p l e R s m args below meth c H locs 0 0 (MQ below (ob_Qi b D cA out) args s 0 0 (ob_A b)) (F0 m 54 ls []) := by
  have hx := Cx.1.1
  have hb := Cx.1.2.1
  intro t H locs ls  hP hS hl h
  unfold B_Ms_readPayload_54 at h
  refine lv_iconst (v := 0) hx hb d_Ms_readPayload_54 (by decide) ?_
  exact ob_zret Cx hP hS d_Ms_readPayload_55 h
theorem g_Ms_readPayload (v0 : Nat) (v1 : Nat) {t : ob_S} {out : (Int32 × ob_S)} (h : X_Ms_readPayload v0 v1 t = some out) : v0 < ob_n t ∧ ob_k t v0 = 8 := by
  unfold X_Ms_readPayload ob_this at h
  by_cases q : v0 < ob_n t ∧ ob_k t v0 = 8
  · exact q
  · rw [if_neg q] at h
    cases h
set_option maxHeartbeats 4000000 in
set_option maxRecDepth 100000 in
theorem c_Ms_readPayload {l : Launch} {b : Nat} {D : va_G} {cA : Nat → ClassId} {adK adV : Nat → Nat} (v0 : Nat) (v1 : Nat) {t : ob_S} {out : (Int32 × ob_S)} (h : X_Ms_readPayload v0 v1 t = some out) : Met l y_Ms_readPayload (Cond.code y_Ms_readPayload cb_Ms_readPayload 3 (some .boolean) :: ob_T) { frames := 2, cells := 0, slots := 0, locals := 52 } (ob_Pre b D cA adK adV [.ref (b + v0), .ref (b + v1)] t) (ob_Qi b D cA out) 0 0 (ob_A b) := by
  refine ob_met (by decide) (Nat.le_of_ble_eq_true rfl) ?_
  intro p e R s m args below meth c ls Cx hP hS hl
  have hl : lv_has ls 3 [(0, .ref (b + v0)), (1, .ref (b + v1))] := hl
  have hx := Cx.1.1
  have hb := Cx.1.2.1
  have hg := g_Ms_readPayload v0 v1 h
  unfold X_Ms_readPayload ob_this at h
  rw [if_pos hg] at h
  obtain ⟨H, hH⟩ : ∃ H, H = s.heap := ⟨_, rfl⟩
  obtain ⟨locs, hL⟩ : ∃ locs : List Loc, locs = [] := ⟨_, rfl⟩
  rw [← hH] at hP
  have hS : va_S (ob_A b) s.heap H locs := by rw [hH, hL]; exact hS
  suffices hW : W p l e R s m args below meth c H locs 0 0 (MQ below (ob_Qi b D cA out) args s 0 0 (ob_A b)) (F0 m 0 ls []) by rw [hH, hL] at hW; exact hW
  refine lv_aload_n hx hb d_Ms_readPayload_0 rfl (lv_at hl 0 rfl) ?_
  refine ob_getI (k := 11) Cx hP ck_8 rfl w_f_Ms_69 d_Ms_readPayload_1 h (fun x1 h => ?_)
  refine lv_aload_n hx hb d_Ms_readPayload_4 rfl (lv_at hl 1 rfl) ?_
  refine ob_getI (k := 1) Cx hP ck_0 rfl w_f_Ms_56 d_Ms_readPayload_5 h (fun x5 h => ?_)
  refine lv_icmp_ne (tgt := 13) hx hb d_Ms_readPayload_8 (by decide) (fun hq => ?_) (fun hq => ?_)
  · rw [if_pos hq] at h
    refine lv_aload_n hx hb d_Ms_readPayload_13 rfl (lv_at hl 1 rfl) ?_
    refine ob_getI (k := 1) Cx hP ck_0 rfl w_f_Ms_56 d_Ms_readPayload_14 h (fun x14 h => ?_)
    refine lv_aload_n hx hb d_Ms_readPayload_17 rfl (lv_at hl 0 rfl) ?_
    refine ob_getI (k := 11) Cx hP ck_8 rfl w_f_Ms_69 d_Ms_readPayload_18 h (fun x18 h => ?_)
    refine lv_isub hx hb d_Ms_readPayload_21 ?_
    refine lv_iconst (v := 1) hx hb d_Ms_readPayload_22 (by decide) ?_
    refine lv_isub hx hb d_Ms_readPayload_23 ?_
    refine lv_istore_n (lv' := [(2, .int ((x14 - x18) - (1 : Int32))), (0, .ref (b + v0)), (1, .ref (b + v1))]) hx hb d_Ms_readPayload_24 rfl hl (by decide) rfl (fun ls hl => ?_)
    refine lv_aload_n hx hb d_Ms_readPayload_25 rfl (lv_at hl 1 rfl) ?_
    refine ob_getR (k := 10) Cx hP ck_8 rfl w_f_Ms_23 d_Ms_readPayload_26 h (fun n26 h => ?_)
    refine lv_aload_n hx hb d_Ms_readPayload_29 rfl (lv_at hl 2 rfl) ?_
    refine lv_aload_n hx hb d_Ms_readPayload_30 rfl (lv_at hl 1 rfl) ?_
    refine ob_getI (k := 11) Cx hP ck_8 rfl w_f_Ms_69 d_Ms_readPayload_31 h (fun x31 h => ?_)
    refine lv_iconst (v := 1) hx hb d_Ms_readPayload_34 (by decide) ?_
    refine lv_iadd hx hb d_Ms_readPayload_35 ?_
    refine lv_iload_n hx hb d_Ms_readPayload_36 rfl (lv_at hl 0 rfl) ?_
    refine ob_cVv (nA := 3) (As := [.ref (b + v1), .int (x31 + (1 : Int32)), .int ((x14 - x18) - (1 : Int32))]) (rest := []) Cx hl.1 hP hS (fun o ho => c_By_addFrom n26 v1 (x31 + (1 : Int32)) ((x14 - x18) - (1 : Int32)) ho) (fun o ho => g_By_addFrom n26 v1 (x31 + (1 : Int32)) ((x14 - x18) - (1 : Int32)) ho) (by decide) (rfl : ob_cl[0]? = _) mv_By_addFrom w_m_Ms_123 rfl (by decide +kernel) ⟨rfl, rfl⟩ ⟨by decide, by decide⟩ (Nat.le_of_ble_eq_true rfl) rfl d_Ms_readPayload_37 h (fun t37 H locs h hP hS => ?_)
    refine lv_iload_n hx hb d_Ms_readPayload_40 rfl (lv_at hl 0 rfl) ?_
    refine lv_if_le (tgt := 54) hx hb d_Ms_readPayload_41 (by decide) (fun hq => ?_) (fun hq => ?_)
    · rw [if_pos hq] at h
      exact tB_Ms_readPayload_54 Cx t37 H locs ls hP hS (lv_sub hl [] rfl) h
    · rw [if_neg hq] at h
      refine lv_iload_n hx hb d_Ms_readPayload_44 rfl (lv_at hl 0 rfl) ?_
      refine lv_bipush (v := 32) hx hb d_Ms_readPayload_45 (by decide) ?_
      refine lv_icmp_gt (tgt := 54) hx hb d_Ms_readPayload_47 (by decide) (fun hq => ?_) (fun hq => ?_)
      · rw [if_pos hq] at h
        exact tB_Ms_readPayload_54 Cx t37 H locs ls hP hS (lv_sub hl [] rfl) h
      · rw [if_neg hq] at h
        refine lv_iconst (v := 1) hx hb d_Ms_readPayload_50 (by decide) ?_
        refine lv_goto (tgt := 55) hx hb d_Ms_readPayload_51 (by decide) ?_
        exact ob_zret Cx hP hS d_Ms_readPayload_55 h
  · rw [if_neg (fun z => z hq)] at h
    refine lv_iconst (v := 1) hx hb d_Ms_readPayload_11 (by decide) ?_
    exact ob_zret Cx hP hS d_Ms_readPayload_12 h
set_option maxHeartbeats 4000000 in
set_option maxRecDepth 100000 in
theorem tB_Ms_read_64 {p : Program} {l : Launch} {e : Env} {R : Room} {s : State} {m : MethodId} {args : Array Value} {below : List Frame} {meth : Method} {c : Code} {b : Nat} {D : va_G} {cA : Nat → ClassId} {adK adV : Nat → Nat} {out : (Int32 × ob_S)} (Cx : ob_C p R s m args meth c cb_Ms_read 3 "ObservedBlocks$Message" (some .boolean) b D cA adK adV 5 118) : ∀ (t : ob_S) (H : Heap) (locs : List Loc) (ls : Array Slot), ob_H b D cA t H → va_S (ob_A b) s.heap H locs → lv_has ls 3 [] → B_Ms_read_64 t = some out → W p l e R s m args below meth c H locs 0 0 (MQ below (ob_Qi b D cA out) args s 0 0 (ob_A b)) (F0 m 64 ls []) := by
  have hx := Cx.1.1
  have hb := Cx.1.2.1
  intro t H locs ls  hP hS hl h
  unfold B_Ms_read_64 at h
  refine lv_iconst (v := 0) hx hb d_Ms_read_64 (by decide) ?_
  exact ob_zret Cx hP hS d_Ms_read_65 h
set_option maxHeartbeats 4000000 in
set_option maxRecDepth 100000 in
theorem tB_Ms_read_161 {p : Program} {l : Launch} {e : Env} {R : Room} {s : State} {m : MethodId} {args : Array Value} {below : List Frame} {meth : Method} {c : Code} {b : Nat} {D : va_G} {cA : Nat → ClassId} {adK adV : Nat → Nat} {out : (Int32 × ob_S)} (Cx : ob_C p R s m args meth c cb_Ms_read 3 "ObservedBlocks$Message" (some .boolean) b D cA adK adV 5 118) : ∀ (t : ob_S) (H : Heap) (locs : List Loc) (ls : Array Slot), ob_H b D cA t H → va_S (ob_A b) s.heap H locs → lv_has ls 3 [] → B_Ms_read_161 t = some out → W p l e R s m args below meth c H locs 0 0 (MQ below (ob_Qi b D cA out) args s 0 0 (ob_A b)) (F0 m 161 ls []) := by
  have hx := Cx.1.1
  have hb := Cx.1.2.1
  intro t H locs ls  hP hS hl h
  unfold B_Ms_read_161 at h
  refine lv_iconst (v := 0) hx hb d_Ms_read_161 (by decide) ?_
  exact ob_zret Cx hP hS d_Ms_read_162 h
set_option maxHeartbeats 4000000 in
set_option maxRecDepth 100000 in
theorem tB_Ms_read_45 {p : Program} {l : Launch} {e : Env} {R : Room} {s : State} {m : MethodId} {args : Array Value} {below : List Frame} {meth : Method} {c : Code} {b : Nat} {D : va_G} {cA : Nat → ClassId} {adK adV : Nat → Nat} {out : (Int32 × ob_S)} (Cx : ob_C p R s m args meth c cb_Ms_read 3 "ObservedBlocks$Message" (some .boolean) b D cA adK adV 5 118) : ∀ (t : ob_S) (H : Heap) (locs : List Loc) (ls : Array Slot) (v0 : Nat) (v1 : Nat) (s0 : Int32) (s1 : Int32), ob_H b D cA t H → va_S (ob_A b) s.heap H locs → lv_has ls 3 [(0, .ref (b + v0)), (1, .ref (b + v1))] → B_Ms_read_45 v0 v1 s0 s1 t = some out → W p l e R s m args below meth c H locs 0 0 (MQ below (ob_Qi b D cA out) args s 0 0 (ob_A b)) (F0 m 45 ls [.int s0, .int s1]) := by
  have hx := Cx.1.1
  have hb := Cx.1.2.1
  intro t H locs ls v0 v1 s0 s1 hP hS hl h
  unfold B_Ms_read_45 at h
  refine lv_isub hx hb d_Ms_read_45 ?_
  refine lv_istore_n (lv' := [(2, .int (s1 - s0)), (0, .ref (b + v0)), (1, .ref (b + v1))]) hx hb d_Ms_read_46 rfl hl (by decide) rfl (fun ls hl => ?_)
  refine lv_iload_n hx hb d_Ms_read_47 rfl (lv_at hl 0 rfl) ?_
  refine lv_if_lt (tgt := 64) hx hb d_Ms_read_48 (by decide) (fun hq => ?_) (fun hq => ?_)
  · rw [if_pos hq] at h
    exact tB_Ms_read_64 Cx t H locs ls hP hS (lv_sub hl [] rfl) h
  · rw [if_neg hq] at h
    refine lv_iload_n hx hb d_Ms_read_51 rfl (lv_at hl 0 rfl) ?_
    refine lv_bipush (v := 48) hx hb d_Ms_read_52 (by decide) ?_
    refine lv_icmp_gt (tgt := 64) hx hb d_Ms_read_54 (by decide) (fun hq => ?_) (fun hq => ?_)
    · rw [if_pos hq] at h
      exact tB_Ms_read_64 Cx t H locs ls hP hS (lv_sub hl [] rfl) h
    · rw [if_neg hq] at h
      refine lv_iload_n hx hb d_Ms_read_57 rfl (lv_at hl 0 rfl) ?_
      refine lv_bipush (v := 16) hx hb d_Ms_read_58 (by decide) ?_
      refine lv_irem hx hb d_Ms_read_60 (by decide) ?_
      refine lv_if_eq (tgt := 66) hx hb d_Ms_read_61 (by decide) (fun hq => ?_) (fun hq => ?_)
      · rw [if_pos hq] at h
        refine lv_aload_n hx hb d_Ms_read_66 rfl (lv_at hl 1 rfl) ?_
        refine lv_iload_n hx hb d_Ms_read_67 rfl (lv_at hl 0 rfl) ?_
        refine lv_bipush (v := 16) hx hb d_Ms_read_68 (by decide) ?_
        refine lv_idiv hx hb d_Ms_read_70 (by decide) ?_
        refine ob_putI (k := 0) Cx hP hS ck_8 rfl rfl rfl w_f_Ms_26 d_Ms_read_71 h (fun t71 H locs h hP hS => ?_)
        refine lv_aload_n hx hb d_Ms_read_74 rfl (lv_at hl 1 rfl) ?_
        refine lv_sipush (v := 256) hx hb d_Ms_read_75 (by decide) ?_
        refine lv_aload_n hx hb d_Ms_read_78 rfl (lv_at hl 2 rfl) ?_
        refine ob_getR (k := 0) Cx hP ck_0 rfl w_f_Ms_59 d_Ms_read_79 h (fun n79 h => ?_)
        refine lv_iconst (v := 2) hx hb d_Ms_read_82 (by decide) ?_
        refine ob_aldI Cx hP d_Ms_read_83 h (fun x83 h => ?_)
        refine lv_imul hx hb d_Ms_read_84 ?_
        refine lv_aload_n hx hb d_Ms_read_85 rfl (lv_at hl 2 rfl) ?_
        refine ob_getR (k := 0) Cx hP ck_0 rfl w_f_Ms_59 d_Ms_read_86 h (fun n86 h => ?_)
        refine lv_iconst (v := 3) hx hb d_Ms_read_89 (by decide) ?_
        refine ob_aldI Cx hP d_Ms_read_90 h (fun x90 h => ?_)
        refine lv_iadd hx hb d_Ms_read_91 ?_
        refine ob_putI (k := 2) Cx hP hS ck_8 rfl rfl rfl w_f_Ms_63 d_Ms_read_92 h (fun t92 H locs h hP hS => ?_)
        refine lv_aload_n hx hb d_Ms_read_95 rfl (lv_at hl 1 rfl) ?_
        refine ob_getI (k := 1) Cx hP ck_8 rfl w_f_Ms_30 d_Ms_read_96 h (fun x96 h => ?_)
        refine lv_if_ne (tgt := 116) hx hb d_Ms_read_99 (by decide) (fun hq => ?_) (fun hq => ?_)
        · rw [if_pos hq] at h
          refine lv_aload_n hx hb d_Ms_read_116 rfl (lv_at hl 2 rfl) ?_
          refine ob_getI (k := 1) Cx hP ck_0 rfl w_f_Ms_56 d_Ms_read_117 h (fun x117 h => ?_)
          refine lv_iconst (v := 5) hx hb d_Ms_read_120 (by decide) ?_
          refine lv_icmp_ge (tgt := 126) hx hb d_Ms_read_121 (by decide) (fun hq => ?_) (fun hq => ?_)
          · rw [if_pos hq] at h
            refine lv_aload_n hx hb d_Ms_read_126 rfl (lv_at hl 1 rfl) ?_
            refine lv_aload_n hx hb d_Ms_read_127 rfl (lv_at hl 2 rfl) ?_
            refine ob_getR (k := 0) Cx hP ck_0 rfl w_f_Ms_59 d_Ms_read_128 h (fun n128 h => ?_)
            refine lv_iconst (v := 4) hx hb d_Ms_read_131 (by decide) ?_
            refine ob_aldI Cx hP d_Ms_read_132 h (fun x132 h => ?_)
            refine ob_putI (k := 3) Cx hP hS ck_8 rfl rfl rfl w_f_Ms_66 d_Ms_read_133 h (fun t133 H locs h hP hS => ?_)
            refine lv_aload_n hx hb d_Ms_read_136 rfl (lv_at hl 1 rfl) ?_
            refine lv_iconst (v := 5) hx hb d_Ms_read_137 (by decide) ?_
            refine ob_putI (k := 11) Cx hP hS ck_8 rfl rfl rfl w_f_Ms_69 d_Ms_read_138 h (fun t138 H locs h hP hS => ?_)
            refine lv_aload_n hx hb d_Ms_read_141 rfl (lv_at hl 1 rfl) ?_
            refine lv_aload_n hx hb d_Ms_read_142 rfl (lv_at hl 2 rfl) ?_
            refine ob_cVi (nA := 1) (As := [.ref (b + v1)]) (rest := []) Cx hl.1 hP hS (fun o ho => c_Ms_readOptions v0 v1 ho) (fun o ho => g_Ms_readOptions v0 v1 ho) (by decide) (rfl : ob_cl[8]? = _) mv_Ms_readOptions w_m_Ms_72 rfl (by decide +kernel) ⟨rfl, rfl⟩ ⟨by decide, by decide⟩ (Nat.le_of_ble_eq_true rfl) rfl d_Ms_read_143 h (fun x143 t143 H locs h hP hS => ?_)
            refine lv_if_eq (tgt := 161) hx hb d_Ms_read_146 (by decide) (fun hq => ?_) (fun hq => ?_)
            · rw [if_pos hq] at h
              exact tB_Ms_read_161 Cx t143 H locs ls hP hS (lv_sub hl [] rfl) h
            · rw [if_neg hq] at h
              refine lv_aload_n hx hb d_Ms_read_149 rfl (lv_at hl 1 rfl) ?_
              refine lv_aload_n hx hb d_Ms_read_150 rfl (lv_at hl 2 rfl) ?_
              refine ob_cVi (nA := 1) (As := [.ref (b + v1)]) (rest := []) Cx hl.1 hP hS (fun o ho => c_Ms_readPayload v0 v1 ho) (fun o ho => g_Ms_readPayload v0 v1 ho) (by decide) (rfl : ob_cl[8]? = _) mv_Ms_readPayload w_m_Ms_76 rfl (by decide +kernel) ⟨rfl, rfl⟩ ⟨by decide, by decide⟩ (Nat.le_of_ble_eq_true rfl) rfl d_Ms_read_151 h (fun x151 t151 H locs h hP hS => ?_)
              refine lv_if_eq (tgt := 161) hx hb d_Ms_read_154 (by decide) (fun hq => ?_) (fun hq => ?_)
              · rw [if_pos hq] at h
                exact tB_Ms_read_161 Cx t151 H locs ls hP hS (lv_sub hl [] rfl) h
              · rw [if_neg hq] at h
                refine lv_iconst (v := 1) hx hb d_Ms_read_157 (by decide) ?_
                refine lv_goto (tgt := 162) hx hb d_Ms_read_158 (by decide) ?_
                exact ob_zret Cx hP hS d_Ms_read_162 h
          · rw [if_neg hq] at h
            refine lv_iconst (v := 0) hx hb d_Ms_read_124 (by decide) ?_
            exact ob_zret Cx hP hS d_Ms_read_125 h
        · rw [if_neg (fun z => z hq)] at h
          refine lv_aload_n hx hb d_Ms_read_102 rfl (lv_at hl 2 rfl) ?_
          refine ob_getI (k := 1) Cx hP ck_0 rfl w_f_Ms_56 d_Ms_read_103 h (fun x103 h => ?_)
          refine lv_iconst (v := 4) hx hb d_Ms_read_106 (by decide) ?_
          refine lv_icmp_ne (tgt := 114) hx hb d_Ms_read_107 (by decide) (fun hq => ?_) (fun hq => ?_)
          · rw [if_pos hq] at h
            refine lv_iconst (v := 0) hx hb d_Ms_read_114 (by decide) ?_
            exact ob_zret Cx hP hS d_Ms_read_115 h
          · rw [if_neg (fun z => z hq)] at h
            refine lv_iconst (v := 1) hx hb d_Ms_read_110 (by decide) ?_
            refine lv_goto (tgt := 115) hx hb d_Ms_read_111 (by decide) ?_
            exact ob_zret Cx hP hS d_Ms_read_115 h
      · rw [if_neg hq] at h
        exact tB_Ms_read_64 Cx t H locs ls hP hS (lv_sub hl [] rfl) h
theorem g_Ms_read (v0 : Nat) (v1 : Nat) {t : ob_S} {out : (Int32 × ob_S)} (h : X_Ms_read v0 v1 t = some out) : v0 < ob_n t ∧ ob_k t v0 = 8 := by
  unfold X_Ms_read ob_this at h
  by_cases q : v0 < ob_n t ∧ ob_k t v0 = 8
  · exact q
  · rw [if_neg q] at h
    cases h
set_option maxHeartbeats 4000000 in
set_option maxRecDepth 100000 in
theorem c_Ms_read {l : Launch} {b : Nat} {D : va_G} {cA : Nat → ClassId} {adK adV : Nat → Nat} (v0 : Nat) (v1 : Nat) {t : ob_S} {out : (Int32 × ob_S)} (h : X_Ms_read v0 v1 t = some out) : Met l y_Ms_read (Cond.code y_Ms_read cb_Ms_read 3 (some .boolean) :: ob_T) { frames := 5, cells := 0, slots := 0, locals := 118 } (ob_Pre b D cA adK adV [.ref (b + v0), .ref (b + v1)] t) (ob_Qi b D cA out) 0 0 (ob_A b) := by
  refine ob_met (by decide) (Nat.le_of_ble_eq_true rfl) ?_
  intro p e R s m args below meth c ls Cx hP hS hl
  have hl : lv_has ls 3 [(0, .ref (b + v0)), (1, .ref (b + v1))] := hl
  have hx := Cx.1.1
  have hb := Cx.1.2.1
  have hg := g_Ms_read v0 v1 h
  unfold X_Ms_read ob_this at h
  rw [if_pos hg] at h
  obtain ⟨H, hH⟩ : ∃ H, H = s.heap := ⟨_, rfl⟩
  obtain ⟨locs, hL⟩ : ∃ locs : List Loc, locs = [] := ⟨_, rfl⟩
  rw [← hH] at hP
  have hS : va_S (ob_A b) s.heap H locs := by rw [hH, hL]; exact hS
  suffices hW : W p l e R s m args below meth c H locs 0 0 (MQ below (ob_Qi b D cA out) args s 0 0 (ob_A b)) (F0 m 0 ls []) by rw [hH, hL] at hW; exact hW
  refine lv_aload_n hx hb d_Ms_read_0 rfl (lv_at hl 0 rfl) ?_
  refine ob_cVv (nA := 0) (As := []) (rest := []) Cx hl.1 hP hS (fun o ho => c_Ms_forget v0 ho) (fun o ho => g_Ms_forget v0 ho) (by decide) (rfl : ob_cl[8]? = _) mv_Ms_forget w_m_Ms_53 rfl (by decide +kernel) ⟨rfl, rfl⟩ ⟨by decide, by decide⟩ (Nat.le_of_ble_eq_true rfl) rfl d_Ms_read_1 h (fun t1 H locs h hP hS => ?_)
  refine lv_aload_n hx hb d_Ms_read_4 rfl (lv_at hl 1 rfl) ?_
  refine ob_getI (k := 1) Cx hP ck_0 rfl w_f_Ms_56 d_Ms_read_5 h (fun x5 h => ?_)
  refine lv_iconst (v := 4) hx hb d_Ms_read_8 (by decide) ?_
  refine lv_icmp_ge (tgt := 14) hx hb d_Ms_read_9 (by decide) (fun hq => ?_) (fun hq => ?_)
  · rw [if_pos hq] at h
    refine lv_aload_n hx hb d_Ms_read_14 rfl (lv_at hl 0 rfl) ?_
    refine lv_aload_n hx hb d_Ms_read_15 rfl (lv_at hl 1 rfl) ?_
    refine ob_getR (k := 0) Cx hP ck_0 rfl w_f_Ms_59 d_Ms_read_16 h (fun n16 h => ?_)
    refine lv_iconst (v := 1) hx hb d_Ms_read_19 (by decide) ?_
    refine ob_aldI Cx hP d_Ms_read_20 h (fun x20 h => ?_)
    refine ob_putI (k := 1) Cx hP hS ck_8 rfl rfl rfl w_f_Ms_30 d_Ms_read_21 h (fun t21 H locs h hP hS => ?_)
    refine lv_aload_n hx hb d_Ms_read_24 rfl (lv_at hl 1 rfl) ?_
    refine ob_getR (k := 0) Cx hP ck_0 rfl w_f_Ms_59 d_Ms_read_25 h (fun n25 h => ?_)
    refine lv_iconst (v := 0) hx hb d_Ms_read_28 (by decide) ?_
    refine ob_aldI Cx hP d_Ms_read_29 h (fun x29 h => ?_)
    refine lv_bipush (v := 64) hx hb d_Ms_read_30 (by decide) ?_
    refine lv_isub hx hb d_Ms_read_32 ?_
    refine lv_aload_n hx hb d_Ms_read_33 rfl (lv_at hl 0 rfl) ?_
    refine ob_getI (k := 1) Cx hP ck_8 rfl w_f_Ms_30 d_Ms_read_34 h (fun x34 h => ?_)
    refine lv_if_ne (tgt := 44) hx hb d_Ms_read_37 (by decide) (fun hq => ?_) (fun hq => ?_)
    · rw [if_pos hq] at h
      refine lv_iconst (v := 1) hx hb d_Ms_read_44 (by decide) ?_
      exact tB_Ms_read_45 Cx t21 H locs ls v0 v1 (1 : Int32) (x29 - (64 : Int32)) hP hS (lv_sub hl [0, 1] rfl) h
    · rw [if_neg (fun z => z hq)] at h
      refine lv_iconst (v := 0) hx hb d_Ms_read_40 (by decide) ?_
      refine lv_goto (tgt := 45) hx hb d_Ms_read_41 (by decide) ?_
      exact tB_Ms_read_45 Cx t21 H locs ls v0 v1 (0 : Int32) (x29 - (64 : Int32)) hP hS (lv_sub hl [0, 1] rfl) h
  · rw [if_neg hq] at h
    refine lv_iconst (v := 0) hx hb d_Ms_read_12 (by decide) ?_
    exact ob_zret Cx hP hS d_Ms_read_13 h
set_option maxHeartbeats 4000000 in
set_option maxRecDepth 100000 in
theorem tB_Li_takeOut_18 {p : Program} {l : Launch} {e : Env} {R : Room} {s : State} {m : MethodId} {args : Array Value} {below : List Frame} {meth : Method} {c : Code} {b : Nat} {D : va_G} {cA : Nat → ClassId} {adK adV : Nat → Nat} {out : ob_S} (Cx : ob_C p R s m args meth c cb_Li_takeOut 4 "ObservedBlocks$Line" none b D cA adK adV 1 21) : ∀ (fu : Nat), ∀ (t : ob_S) (H : Heap) (locs : List Loc) (ls : Array Slot) (v0 : Nat) (v2 : Nat) (v3 : Int32), ob_H b D cA t H → va_S (ob_A b) s.heap H locs → lv_has ls 4 [(0, .ref (b + v0)), (2, .ref (b + v2)), (3, .int v3)] → B_Li_takeOut_18 fu v0 v2 v3 t = some out → W p l e R s m args below meth c H locs 0 0 (MQ below (ob_Qv b D cA out) args s 0 0 (ob_A b)) (F0 m 18 ls []) := by
  have hx := Cx.1.1
  have hb := Cx.1.2.1
  intro fu
  induction fu with
  | zero =>
    intro t H locs ls v0 v2 v3 hP hS hl h
    cases h
  | succ fu ih =>
    intro t H locs ls v0 v2 v3 hP hS hl h
    rw [B_Li_takeOut_18] at h
    refine lv_iload_n hx hb d_Li_takeOut_18 rfl (lv_at hl 2 rfl) ?_
    refine lv_aload_n hx hb d_Li_takeOut_19 rfl (lv_at hl 0 rfl) ?_
    refine ob_getI (k := 2) Cx hP ck_1 rfl w_f_Li_24 d_Li_takeOut_20 h (fun x20 h => ?_)
    refine lv_iconst (v := 1) hx hb d_Li_takeOut_23 (by decide) ?_
    refine lv_isub hx hb d_Li_takeOut_24 ?_
    refine lv_icmp_ge (tgt := 62) hx hb d_Li_takeOut_25 (by decide) (fun hq => ?_) (fun hq => ?_)
    · rw [if_pos hq] at h
      refine lv_aload_n hx hb d_Li_takeOut_62 rfl (lv_at hl 0 rfl) ?_
      refine lv_dup hx hb d_Li_takeOut_63 rfl ?_
      refine ob_getI (k := 2) Cx hP ck_1 rfl w_f_Li_24 d_Li_takeOut_64 h (fun x64 h => ?_)
      refine lv_iconst (v := 1) hx hb d_Li_takeOut_67 (by decide) ?_
      refine lv_isub hx hb d_Li_takeOut_68 ?_
      refine ob_putI (k := 2) Cx hP hS ck_1 rfl rfl rfl w_f_Li_24 d_Li_takeOut_69 h (fun t69 H locs h hP hS => ?_)
      refine lv_aload_n hx hb d_Li_takeOut_72 rfl (lv_at hl 0 rfl) ?_
      refine ob_getR (k := 0) Cx hP ck_1 rfl w_f_Li_11 d_Li_takeOut_73 h (fun n73 h => ?_)
      refine lv_aload_n hx hb d_Li_takeOut_76 rfl (lv_at hl 0 rfl) ?_
      refine ob_getI (k := 2) Cx hP ck_1 rfl w_f_Li_24 d_Li_takeOut_77 h (fun x77 h => ?_)
      refine lv_aload_n hx hb d_Li_takeOut_80 rfl (lv_at hl 1 rfl) ?_
      refine ob_astR (kd := 14) Cx hP hS (by decide) (by decide) (rfl : ob_cl[0]? = _) rfl d_Li_takeOut_81 h (fun t81 H locs h hP hS => ?_)
      exact ob_vret Cx hP hS d_Li_takeOut_82 h
    · rw [if_neg hq] at h
      refine lv_aload_n hx hb d_Li_takeOut_28 rfl (lv_at hl 0 rfl) ?_
      refine ob_getR (k := 0) Cx hP ck_1 rfl w_f_Li_11 d_Li_takeOut_29 h (fun n29 h => ?_)
      refine lv_iload_n hx hb d_Li_takeOut_32 rfl (lv_at hl 2 rfl) ?_
      refine lv_aload_n hx hb d_Li_takeOut_33 rfl (lv_at hl 0 rfl) ?_
      refine ob_getR (k := 0) Cx hP ck_1 rfl w_f_Li_11 d_Li_takeOut_34 h (fun n34 h => ?_)
      refine lv_iload_n hx hb d_Li_takeOut_37 rfl (lv_at hl 2 rfl) ?_
      refine lv_iconst (v := 1) hx hb d_Li_takeOut_38 (by decide) ?_
      refine lv_iadd hx hb d_Li_takeOut_39 ?_
      refine ob_aldR (kd := 14) Cx hP (by decide) rfl d_Li_takeOut_40 h (fun n40 h => ?_)
      refine ob_astR (kd := 14) Cx hP hS (by decide) (by decide) (rfl : ob_cl[0]? = _) rfl d_Li_takeOut_41 h (fun t41 H locs h hP hS => ?_)
      refine lv_aload_n hx hb d_Li_takeOut_42 rfl (lv_at hl 0 rfl) ?_
      refine ob_getR (k := 1) Cx hP ck_1 rfl w_f_Li_17 d_Li_takeOut_43 h (fun n43 h => ?_)
      refine lv_iload_n hx hb d_Li_takeOut_46 rfl (lv_at hl 2 rfl) ?_
      refine lv_aload_n hx hb d_Li_takeOut_47 rfl (lv_at hl 0 rfl) ?_
      refine ob_getR (k := 1) Cx hP ck_1 rfl w_f_Li_17 d_Li_takeOut_48 h (fun n48 h => ?_)
      refine lv_iload_n hx hb d_Li_takeOut_51 rfl (lv_at hl 2 rfl) ?_
      refine lv_iconst (v := 1) hx hb d_Li_takeOut_52 (by decide) ?_
      refine lv_iadd hx hb d_Li_takeOut_53 ?_
      refine ob_aldI Cx hP d_Li_takeOut_54 h (fun x54 h => ?_)
      refine ob_astI Cx hP hS d_Li_takeOut_55 h (fun t55 H locs h hP hS => ?_)
      refine lv_iinc (v := (v3 + (1 : Int32))) (lv' := [(3, .int (v3 + (1 : Int32))), (0, .ref (b + v0)), (2, .ref (b + v2))]) hx hb d_Li_takeOut_56 hl (k := 2) rfl rfl (by decide) rfl (fun ls hl => ?_)
      refine lv_goto (tgt := 18) hx hb d_Li_takeOut_59 (by decide) ?_
      exact ih t55 H locs ls v0 v2 (v3 + (1 : Int32)) hP hS (lv_sub hl [1, 2, 0] rfl) h
theorem g_Li_takeOut (v0 : Nat) (v1 : Int32) {t : ob_S} {out : ob_S} (h : X_Li_takeOut v0 v1 t = some out) : v0 < ob_n t ∧ ob_k t v0 = 1 := by
  unfold X_Li_takeOut ob_this at h
  by_cases q : v0 < ob_n t ∧ ob_k t v0 = 1
  · exact q
  · rw [if_neg q] at h
    cases h
set_option maxHeartbeats 4000000 in
set_option maxRecDepth 100000 in
theorem c_Li_takeOut {l : Launch} {b : Nat} {D : va_G} {cA : Nat → ClassId} {adK adV : Nat → Nat} (v0 : Nat) (v1 : Int32) {t : ob_S} {out : ob_S} (h : X_Li_takeOut v0 v1 t = some out) : Met l y_Li_takeOut (Cond.code y_Li_takeOut cb_Li_takeOut 4 none :: ob_T) { frames := 1, cells := 0, slots := 0, locals := 21 } (ob_Pre b D cA adK adV [.ref (b + v0), .int v1] t) (ob_Qv b D cA out) 0 0 (ob_A b) := by
  refine ob_met (by decide) (Nat.le_of_ble_eq_true rfl) ?_
  intro p e R s m args below meth c ls Cx hP hS hl
  have hl : lv_has ls 4 [(0, .ref (b + v0)), (1, .int v1)] := hl
  have hx := Cx.1.1
  have hb := Cx.1.2.1
  have hg := g_Li_takeOut v0 v1 h
  unfold X_Li_takeOut ob_this at h
  rw [if_pos hg] at h
  obtain ⟨H, hH⟩ : ∃ H, H = s.heap := ⟨_, rfl⟩
  obtain ⟨locs, hL⟩ : ∃ locs : List Loc, locs = [] := ⟨_, rfl⟩
  rw [← hH] at hP
  have hS : va_S (ob_A b) s.heap H locs := by rw [hH, hL]; exact hS
  suffices hW : W p l e R s m args below meth c H locs 0 0 (MQ below (ob_Qv b D cA out) args s 0 0 (ob_A b)) (F0 m 0 ls []) by rw [hH, hL] at hW; exact hW
  refine lv_aload_n hx hb d_Li_takeOut_0 rfl (lv_at hl 0 rfl) ?_
  refine lv_iload_n hx hb d_Li_takeOut_1 rfl (lv_at hl 1 rfl) ?_
  refine ob_cVi (nA := 1) (As := [.int v1]) (rest := []) Cx hl.1 hP hS (fun o ho => c_Li_has v0 v1 ho) (fun o ho => g_Li_has v0 v1 ho) (by decide) (rfl : ob_cl[1]? = _) mv_Li_has w_m_Li_32 rfl (by decide +kernel) ⟨rfl, rfl⟩ ⟨by decide, by decide⟩ (Nat.le_of_ble_eq_true rfl) rfl d_Li_takeOut_2 h (fun x2 t2 H locs h hP hS => ?_)
  refine lv_if_ne (tgt := 9) hx hb d_Li_takeOut_5 (by decide) (fun hq => ?_) (fun hq => ?_)
  · rw [if_pos hq] at h
    refine lv_aload_n hx hb d_Li_takeOut_9 rfl (lv_at hl 0 rfl) ?_
    refine ob_getR (k := 0) Cx hP ck_1 rfl w_f_Li_11 d_Li_takeOut_10 h (fun n10 h => ?_)
    refine lv_iload_n hx hb d_Li_takeOut_13 rfl (lv_at hl 1 rfl) ?_
    refine ob_aldR (kd := 14) Cx hP (by decide) rfl d_Li_takeOut_14 h (fun n14 h => ?_)
    refine lv_astore_n (lv' := [(2, .ref (b + n14)), (0, .ref (b + v0)), (1, .int v1)]) hx hb d_Li_takeOut_15 rfl hl (by decide) rfl (fun ls hl => ?_)
    refine lv_iload_n hx hb d_Li_takeOut_16 rfl (lv_at hl 2 rfl) ?_
    refine lv_istore_n (lv' := [(3, .int v1), (2, .ref (b + n14)), (0, .ref (b + v0)), (1, .int v1)]) hx hb d_Li_takeOut_17 rfl hl (by decide) rfl (fun ls hl => ?_)
    exact tB_Li_takeOut_18 Cx ob_fu t2 H locs ls v0 n14 v1 hP hS (lv_sub hl [2, 1, 0] rfl) h
  · rw [if_neg (fun z => z hq)] at h
    exact ob_vret Cx hP hS d_Li_takeOut_8 h

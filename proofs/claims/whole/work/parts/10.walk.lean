set_option maxHeartbeats 4000000 in
set_option maxRecDepth 100000 in
theorem tB_Ob_isWithin_13 {p : Program} {l : Launch} {e : Env} {R : Room} {s : State} {m : MethodId} {args : Array Value} {below : List Frame} {meth : Method} {c : Code} {b : Nat} {D : va_G} {cA : Nat → ClassId} {adK adV : Nat → Nat} {out : (Int32 × ob_S)} (Cx : ob_C p R s m args meth c cb_Ob_isWithin 2 "ObservedBlocks" (some .boolean) b D cA adK adV 0 0) : ∀ (t : ob_S) (H : Heap) (locs : List Loc) (ls : Array Slot), ob_H b D cA t H → va_S (ob_A b) s.heap H locs → lv_has ls 2 [] → B_Ob_isWithin_13 t = some out → W p l e R s m args below meth c H locs 0 0 (MQ below (ob_Qi b D cA out) args s 0 0 (ob_A b)) (F0 m 13 ls []) := by
  have hx := Cx.1.1
  have hb := Cx.1.2.1
  intro t H locs ls  hP hS hl h
  unfold B_Ob_isWithin_13 at h
  refine lv_iconst (v := 0) hx hb d_Ob_isWithin_13 (by decide) ?_
  exact ob_zret Cx hP hS d_Ob_isWithin_14 h
set_option maxHeartbeats 4000000 in
set_option maxRecDepth 100000 in
theorem c_Ob_isWithin {l : Launch} {b : Nat} {D : va_G} {cA : Nat → ClassId} {adK adV : Nat → Nat} (v0 : Int32) (v1 : Int32) {t : ob_S} {out : (Int32 × ob_S)} (h : X_Ob_isWithin v0 v1 t = some out) : Met l y_Ob_isWithin (Cond.code y_Ob_isWithin cb_Ob_isWithin 2 (some .boolean) :: ob_T) { frames := 0, cells := 0, slots := 0, locals := 0 } (ob_Pre b D cA adK adV [.int v0, .int v1] t) (ob_Qi b D cA out) 0 0 (ob_A b) := by
  refine ob_met (by decide) (Nat.le_of_ble_eq_true rfl) ?_
  intro p e R s m args below meth c ls Cx hP hS hl
  have hl : lv_has ls 2 [(0, .int v0), (1, .int v1)] := hl
  have hx := Cx.1.1
  have hb := Cx.1.2.1
  unfold X_Ob_isWithin at h
  obtain ⟨H, hH⟩ : ∃ H, H = s.heap := ⟨_, rfl⟩
  obtain ⟨locs, hL⟩ : ∃ locs : List Loc, locs = [] := ⟨_, rfl⟩
  rw [← hH] at hP
  have hS : va_S (ob_A b) s.heap H locs := by rw [hH, hL]; exact hS
  suffices hW : W p l e R s m args below meth c H locs 0 0 (MQ below (ob_Qi b D cA out) args s 0 0 (ob_A b)) (F0 m 0 ls []) by rw [hH, hL] at hW; exact hW
  refine lv_iload_n hx hb d_Ob_isWithin_0 rfl (lv_at hl 0 rfl) ?_
  refine lv_if_lt (tgt := 13) hx hb d_Ob_isWithin_1 (by decide) (fun hq => ?_) (fun hq => ?_)
  · rw [if_pos hq] at h
    exact tB_Ob_isWithin_13 Cx t H locs ls hP hS (lv_sub hl [] rfl) h
  · rw [if_neg hq] at h
    refine lv_iload_n hx hb d_Ob_isWithin_4 rfl (lv_at hl 0 rfl) ?_
    refine lv_iload_n hx hb d_Ob_isWithin_5 rfl (lv_at hl 1 rfl) ?_
    refine lv_icmp_gt (tgt := 13) hx hb d_Ob_isWithin_6 (by decide) (fun hq => ?_) (fun hq => ?_)
    · rw [if_pos hq] at h
      exact tB_Ob_isWithin_13 Cx t H locs ls hP hS (lv_sub hl [] rfl) h
    · rw [if_neg hq] at h
      refine lv_iconst (v := 1) hx hb d_Ob_isWithin_9 (by decide) ?_
      refine lv_goto (tgt := 14) hx hb d_Ob_isWithin_10 (by decide) ?_
      exact ob_zret Cx hP hS d_Ob_isWithin_14 h
set_option maxHeartbeats 4000000 in
set_option maxRecDepth 100000 in
theorem tB_Ob_isAskable_28 {p : Program} {l : Launch} {e : Env} {R : Room} {s : State} {m : MethodId} {args : Array Value} {below : List Frame} {meth : Method} {c : Code} {b : Nat} {D : va_G} {cA : Nat → ClassId} {adK adV : Nat → Nat} {out : (Int32 × ob_S)} (Cx : ob_C p R s m args meth c cb_Ob_isAskable 3 "ObservedBlocks" (some .boolean) b D cA adK adV 1 21) : ∀ (t : ob_S) (H : Heap) (locs : List Loc) (ls : Array Slot), ob_H b D cA t H → va_S (ob_A b) s.heap H locs → lv_has ls 3 [] → B_Ob_isAskable_28 t = some out → W p l e R s m args below meth c H locs 0 0 (MQ below (ob_Qi b D cA out) args s 0 0 (ob_A b)) (F0 m 28 ls []) := by
  have hx := Cx.1.1
  have hb := Cx.1.2.1
  intro t H locs ls  hP hS hl h
  unfold B_Ob_isAskable_28 at h
  refine lv_iconst (v := 0) hx hb d_Ob_isAskable_28 (by decide) ?_
  exact ob_zret Cx hP hS d_Ob_isAskable_29 h
set_option maxHeartbeats 4000000 in
set_option maxRecDepth 100000 in
theorem c_Ob_isAskable {l : Launch} {b : Nat} {D : va_G} {cA : Nat → ClassId} {adK adV : Nat → Nat} (v0 : Int32) (v1 : Int32) (v2 : Int32) {t : ob_S} {out : (Int32 × ob_S)} (h : X_Ob_isAskable v0 v1 v2 t = some out) : Met l y_Ob_isAskable (Cond.code y_Ob_isAskable cb_Ob_isAskable 3 (some .boolean) :: ob_T) { frames := 1, cells := 0, slots := 0, locals := 21 } (ob_Pre b D cA adK adV [.int v0, .int v1, .int v2] t) (ob_Qi b D cA out) 0 0 (ob_A b) := by
  refine ob_met (by decide) (Nat.le_of_ble_eq_true rfl) ?_
  intro p e R s m args below meth c ls Cx hP hS hl
  have hl : lv_has ls 3 [(0, .int v0), (1, .int v1), (2, .int v2)] := hl
  have hx := Cx.1.1
  have hb := Cx.1.2.1
  unfold X_Ob_isAskable at h
  obtain ⟨H, hH⟩ : ∃ H, H = s.heap := ⟨_, rfl⟩
  obtain ⟨locs, hL⟩ : ∃ locs : List Loc, locs = [] := ⟨_, rfl⟩
  rw [← hH] at hP
  have hS : va_S (ob_A b) s.heap H locs := by rw [hH, hL]; exact hS
  suffices hW : W p l e R s m args below meth c H locs 0 0 (MQ below (ob_Qi b D cA out) args s 0 0 (ob_A b)) (F0 m 0 ls []) by rw [hH, hL] at hW; exact hW
  refine lv_iload_n hx hb d_Ob_isAskable_0 rfl (lv_at hl 0 rfl) ?_
  refine lv_iconst (v := 1) hx hb d_Ob_isAskable_1 (by decide) ?_
  refine ob_cSi (nA := 2) (As := [.int v0, .int (1 : Int32)]) (rest := []) Cx hl.1 hP hS (fun o ho => c_Ob_isWithin v0 (1 : Int32) ho) ms_Ob_isWithin w_m_Ob_67 rfl (by decide +kernel) ⟨rfl, rfl⟩ ⟨by decide, by decide⟩ (Nat.le_of_ble_eq_true rfl) rfl d_Ob_isAskable_2 h (fun x2 t2 H locs h hP hS => ?_)
  refine lv_if_eq (tgt := 28) hx hb d_Ob_isAskable_5 (by decide) (fun hq => ?_) (fun hq => ?_)
  · rw [if_pos hq] at h
    exact tB_Ob_isAskable_28 Cx t2 H locs ls hP hS (lv_sub hl [] rfl) h
  · rw [if_neg hq] at h
    refine lv_iload_n hx hb d_Ob_isAskable_8 rfl (lv_at hl 1 rfl) ?_
    refine lv_iconst (v := 4) hx hb d_Ob_isAskable_9 (by decide) ?_
    refine ob_cSi (nA := 2) (As := [.int v1, .int (4 : Int32)]) (rest := []) Cx hl.1 hP hS (fun o ho => c_Ob_isWithin v1 (4 : Int32) ho) ms_Ob_isWithin w_m_Ob_67 rfl (by decide +kernel) ⟨rfl, rfl⟩ ⟨by decide, by decide⟩ (Nat.le_of_ble_eq_true rfl) rfl d_Ob_isAskable_10 h (fun x10 t10 H locs h hP hS => ?_)
    refine lv_if_eq (tgt := 28) hx hb d_Ob_isAskable_13 (by decide) (fun hq => ?_) (fun hq => ?_)
    · rw [if_pos hq] at h
      exact tB_Ob_isAskable_28 Cx t10 H locs ls hP hS (lv_sub hl [] rfl) h
    · rw [if_neg hq] at h
      refine lv_iload_n hx hb d_Ob_isAskable_16 rfl (lv_at hl 2 rfl) ?_
      refine lv_iconst (v := 1) hx hb d_Ob_isAskable_17 (by decide) ?_
      refine ob_cSi (nA := 2) (As := [.int v2, .int (1 : Int32)]) (rest := []) Cx hl.1 hP hS (fun o ho => c_Ob_isWithin v2 (1 : Int32) ho) ms_Ob_isWithin w_m_Ob_67 rfl (by decide +kernel) ⟨rfl, rfl⟩ ⟨by decide, by decide⟩ (Nat.le_of_ble_eq_true rfl) rfl d_Ob_isAskable_18 h (fun x18 t18 H locs h hP hS => ?_)
      refine lv_if_eq (tgt := 28) hx hb d_Ob_isAskable_21 (by decide) (fun hq => ?_) (fun hq => ?_)
      · rw [if_pos hq] at h
        exact tB_Ob_isAskable_28 Cx t18 H locs ls hP hS (lv_sub hl [] rfl) h
      · rw [if_neg hq] at h
        refine lv_iconst (v := 1) hx hb d_Ob_isAskable_24 (by decide) ?_
        refine lv_goto (tgt := 29) hx hb d_Ob_isAskable_25 (by decide) ?_
        exact ob_zret Cx hP hS d_Ob_isAskable_29 h
theorem g_By_clear (v0 : Nat) {t : ob_S} {out : ob_S} (h : X_By_clear v0 t = some out) : v0 < ob_n t ∧ ob_k t v0 = 0 := by
  unfold X_By_clear ob_this at h
  by_cases q : v0 < ob_n t ∧ ob_k t v0 = 0
  · exact q
  · rw [if_neg q] at h
    cases h
set_option maxHeartbeats 4000000 in
set_option maxRecDepth 100000 in
theorem c_By_clear {l : Launch} {b : Nat} {D : va_G} {cA : Nat → ClassId} {adK adV : Nat → Nat} (v0 : Nat) {t : ob_S} {out : ob_S} (h : X_By_clear v0 t = some out) : Met l y_By_clear (Cond.code y_By_clear cb_By_clear 1 none :: ob_T) { frames := 0, cells := 0, slots := 0, locals := 0 } (ob_Pre b D cA adK adV [.ref (b + v0)] t) (ob_Qv b D cA out) 0 0 (ob_A b) := by
  refine ob_met (by decide) (Nat.le_of_ble_eq_true rfl) ?_
  intro p e R s m args below meth c ls Cx hP hS hl
  have hl : lv_has ls 1 [(0, .ref (b + v0))] := hl
  have hx := Cx.1.1
  have hb := Cx.1.2.1
  have hg := g_By_clear v0 h
  unfold X_By_clear ob_this at h
  rw [if_pos hg] at h
  obtain ⟨H, hH⟩ : ∃ H, H = s.heap := ⟨_, rfl⟩
  obtain ⟨locs, hL⟩ : ∃ locs : List Loc, locs = [] := ⟨_, rfl⟩
  rw [← hH] at hP
  have hS : va_S (ob_A b) s.heap H locs := by rw [hH, hL]; exact hS
  suffices hW : W p l e R s m args below meth c H locs 0 0 (MQ below (ob_Qv b D cA out) args s 0 0 (ob_A b)) (F0 m 0 ls []) by rw [hH, hL] at hW; exact hW
  refine lv_aload_n hx hb d_By_clear_0 rfl (lv_at hl 0 rfl) ?_
  refine lv_iconst (v := 0) hx hb d_By_clear_1 (by decide) ?_
  refine ob_putI (k := 1) Cx hP hS ck_0 rfl rfl rfl w_f_By_15 d_By_clear_2 h (fun t2 H locs h hP hS => ?_)
  exact ob_vret Cx hP hS d_By_clear_5 h
theorem g_Sl_begin (v0 : Nat) (v1 : Int32) (v2 : Int32) (v3 : Int32) (v4 : Int32) {t : ob_S} {out : ob_S} (h : X_Sl_begin v0 v1 v2 v3 v4 t = some out) : v0 < ob_n t ∧ ob_k t v0 = 6 := by
  unfold X_Sl_begin ob_this at h
  by_cases q : v0 < ob_n t ∧ ob_k t v0 = 6
  · exact q
  · rw [if_neg q] at h
    cases h
set_option maxHeartbeats 4000000 in
set_option maxRecDepth 100000 in
theorem c_Sl_begin {l : Launch} {b : Nat} {D : va_G} {cA : Nat → ClassId} {adK adV : Nat → Nat} (v0 : Nat) (v1 : Int32) (v2 : Int32) (v3 : Int32) (v4 : Int32) {t : ob_S} {out : ob_S} (h : X_Sl_begin v0 v1 v2 v3 v4 t = some out) : Met l y_Sl_begin (Cond.code y_Sl_begin cb_Sl_begin 5 none :: ob_T) { frames := 1, cells := 0, slots := 0, locals := 20 } (ob_Pre b D cA adK adV [.ref (b + v0), .int v1, .int v2, .int v3, .int v4] t) (ob_Qv b D cA out) 0 0 (ob_A b) := by
  refine ob_met (by decide) (Nat.le_of_ble_eq_true rfl) ?_
  intro p e R s m args below meth c ls Cx hP hS hl
  have hl : lv_has ls 5 [(0, .ref (b + v0)), (1, .int v1), (2, .int v2), (3, .int v3), (4, .int v4)] := hl
  have hx := Cx.1.1
  have hb := Cx.1.2.1
  have hg := g_Sl_begin v0 v1 v2 v3 v4 h
  unfold X_Sl_begin ob_this at h
  rw [if_pos hg] at h
  obtain ⟨H, hH⟩ : ∃ H, H = s.heap := ⟨_, rfl⟩
  obtain ⟨locs, hL⟩ : ∃ locs : List Loc, locs = [] := ⟨_, rfl⟩
  rw [← hH] at hP
  have hS : va_S (ob_A b) s.heap H locs := by rw [hH, hL]; exact hS
  suffices hW : W p l e R s m args below meth c H locs 0 0 (MQ below (ob_Qv b D cA out) args s 0 0 (ob_A b)) (F0 m 0 ls []) by rw [hH, hL] at hW; exact hW
  refine lv_aload_n hx hb d_Sl_begin_0 rfl (lv_at hl 0 rfl) ?_
  refine lv_dup hx hb d_Sl_begin_1 rfl ?_
  refine ob_getI (k := 9) Cx hP ck_6 rfl w_f_Sl_31 d_Sl_begin_2 h (fun x2 h => ?_)
  refine lv_iconst (v := 1) hx hb d_Sl_begin_5 (by decide) ?_
  refine lv_iadd hx hb d_Sl_begin_6 ?_
  refine ob_putI (k := 9) Cx hP hS ck_6 rfl rfl rfl w_f_Sl_31 d_Sl_begin_7 h (fun t7 H locs h hP hS => ?_)
  refine lv_aload_n hx hb d_Sl_begin_10 rfl (lv_at hl 0 rfl) ?_
  refine lv_iconst (v := 2) hx hb d_Sl_begin_11 (by decide) ?_
  refine lv_aload_n hx hb d_Sl_begin_12 rfl (lv_at hl 0 rfl) ?_
  refine ob_getI (k := 9) Cx hP ck_6 rfl w_f_Sl_31 d_Sl_begin_13 h (fun x13 h => ?_)
  refine lv_imul hx hb d_Sl_begin_16 ?_
  refine lv_aload_n hx hb d_Sl_begin_17 rfl (lv_at hl 0 rfl) ?_
  refine ob_getI (k := 8) Cx hP ck_6 rfl w_f_Sl_27 d_Sl_begin_18 h (fun x18 h => ?_)
  refine lv_iadd hx hb d_Sl_begin_21 ?_
  refine lv_sipush (v := 255) hx hb d_Sl_begin_22 (by decide) ?_
  refine lv_iand hx hb d_Sl_begin_25 ?_
  refine ob_putI (k := 3) Cx hP hS ck_6 rfl rfl rfl w_f_Sl_37 d_Sl_begin_26 h (fun t26 H locs h hP hS => ?_)
  refine lv_aload_n hx hb d_Sl_begin_29 rfl (lv_at hl 0 rfl) ?_
  refine lv_iload_n hx hb d_Sl_begin_30 rfl (lv_at hl 1 rfl) ?_
  refine ob_putI (k := 4) Cx hP hS ck_6 rfl rfl rfl w_f_Sl_40 d_Sl_begin_31 h (fun t31 H locs h hP hS => ?_)
  refine lv_aload_n hx hb d_Sl_begin_34 rfl (lv_at hl 0 rfl) ?_
  refine lv_iload_n hx hb d_Sl_begin_35 rfl (lv_at hl 2 rfl) ?_
  refine ob_putI (k := 5) Cx hP hS ck_6 rfl rfl rfl w_f_Sl_43 d_Sl_begin_36 h (fun t36 H locs h hP hS => ?_)
  refine lv_aload_n hx hb d_Sl_begin_39 rfl (lv_at hl 0 rfl) ?_
  refine lv_iconst (v := 0) hx hb d_Sl_begin_40 (by decide) ?_
  refine ob_putI (k := 6) Cx hP hS ck_6 rfl rfl rfl w_f_Sl_46 d_Sl_begin_41 h (fun t41 H locs h hP hS => ?_)
  refine lv_aload_n hx hb d_Sl_begin_44 rfl (lv_at hl 0 rfl) ?_
  refine lv_iload_n hx hb d_Sl_begin_45 rfl (lv_at hl 3 rfl) ?_
  refine ob_putZ (k := 7) Cx hP hS ck_6 rfl rfl rfl w_f_Sl_49 d_Sl_begin_46 h (fun t46 H locs h hP hS => ?_)
  refine lv_aload_n hx hb d_Sl_begin_49 rfl (lv_at hl 0 rfl) ?_
  refine lv_iload hx hb d_Sl_begin_50 (lv_at hl 4 rfl) ?_
  refine ob_putZ (k := 10) Cx hP hS ck_6 rfl rfl rfl w_f_Sl_53 d_Sl_begin_52 h (fun t52 H locs h hP hS => ?_)
  refine lv_aload_n hx hb d_Sl_begin_55 rfl (lv_at hl 0 rfl) ?_
  refine lv_iconst (v := 0) hx hb d_Sl_begin_56 (by decide) ?_
  refine ob_putZ (k := 11) Cx hP hS ck_6 rfl rfl rfl w_f_Sl_56 d_Sl_begin_57 h (fun t57 H locs h hP hS => ?_)
  refine lv_aload_n hx hb d_Sl_begin_60 rfl (lv_at hl 0 rfl) ?_
  refine lv_iconst (v := 0) hx hb d_Sl_begin_61 (by decide) ?_
  refine ob_putI (k := 12) Cx hP hS ck_6 rfl rfl rfl w_f_Sl_59 d_Sl_begin_62 h (fun t62 H locs h hP hS => ?_)
  refine lv_aload_n hx hb d_Sl_begin_65 rfl (lv_at hl 0 rfl) ?_
  refine lv_iconst (v := 0) hx hb d_Sl_begin_66 (by decide) ?_
  refine ob_putI (k := 13) Cx hP hS ck_6 rfl rfl rfl w_f_Sl_62 d_Sl_begin_67 h (fun t67 H locs h hP hS => ?_)
  refine lv_aload_n hx hb d_Sl_begin_70 rfl (lv_at hl 0 rfl) ?_
  refine ob_getR (k := 0) Cx hP ck_6 rfl w_f_Sl_14 d_Sl_begin_71 h (fun n71 h => ?_)
  refine ob_cVv (nA := 0) (As := []) (rest := []) Cx hl.1 hP hS (fun o ho => c_By_clear n71 ho) (fun o ho => g_By_clear n71 ho) (by decide) (rfl : ob_cl[0]? = _) mv_By_clear w_m_Sl_65 rfl (by decide +kernel) ⟨rfl, rfl⟩ ⟨by decide, by decide⟩ (Nat.le_of_ble_eq_true rfl) rfl d_Sl_begin_74 h (fun t74 H locs h hP hS => ?_)
  exact ob_vret Cx hP hS d_Sl_begin_77 h
theorem g_By_add (v0 : Nat) (v1 : Int32) {t : ob_S} {out : ob_S} (h : X_By_add v0 v1 t = some out) : v0 < ob_n t ∧ ob_k t v0 = 0 := by
  unfold X_By_add ob_this at h
  by_cases q : v0 < ob_n t ∧ ob_k t v0 = 0
  · exact q
  · rw [if_neg q] at h
    cases h
set_option maxHeartbeats 4000000 in
set_option maxRecDepth 100000 in
theorem c_By_add {l : Launch} {b : Nat} {D : va_G} {cA : Nat → ClassId} {adK adV : Nat → Nat} (v0 : Nat) (v1 : Int32) {t : ob_S} {out : ob_S} (h : X_By_add v0 v1 t = some out) : Met l y_By_add (Cond.code y_By_add cb_By_add 2 none :: ob_T) { frames := 0, cells := 0, slots := 0, locals := 0 } (ob_Pre b D cA adK adV [.ref (b + v0), .int v1] t) (ob_Qv b D cA out) 0 0 (ob_A b) := by
  refine ob_met (by decide) (Nat.le_of_ble_eq_true rfl) ?_
  intro p e R s m args below meth c ls Cx hP hS hl
  have hl : lv_has ls 2 [(0, .ref (b + v0)), (1, .int v1)] := hl
  have hx := Cx.1.1
  have hb := Cx.1.2.1
  have hg := g_By_add v0 v1 h
  unfold X_By_add ob_this at h
  rw [if_pos hg] at h
  obtain ⟨H, hH⟩ : ∃ H, H = s.heap := ⟨_, rfl⟩
  obtain ⟨locs, hL⟩ : ∃ locs : List Loc, locs = [] := ⟨_, rfl⟩
  rw [← hH] at hP
  have hS : va_S (ob_A b) s.heap H locs := by rw [hH, hL]; exact hS
  suffices hW : W p l e R s m args below meth c H locs 0 0 (MQ below (ob_Qv b D cA out) args s 0 0 (ob_A b)) (F0 m 0 ls []) by rw [hH, hL] at hW; exact hW
  refine lv_aload_n hx hb d_By_add_0 rfl (lv_at hl 0 rfl) ?_
  refine ob_getI (k := 1) Cx hP ck_0 rfl w_f_By_15 d_By_add_1 h (fun x1 h => ?_)
  refine lv_aload_n hx hb d_By_add_4 rfl (lv_at hl 0 rfl) ?_
  refine ob_getR (k := 0) Cx hP ck_0 rfl w_f_By_9 d_By_add_5 h (fun n5 h => ?_)
  refine ob_alen Cx hP d_By_add_8 h (fun x8 h => ?_)
  refine lv_icmp_ge (tgt := 36) hx hb d_By_add_9 (by decide) (fun hq => ?_) (fun hq => ?_)
  · rw [if_pos hq] at h
    exact ob_vret Cx hP hS d_By_add_36 h
  · rw [if_neg hq] at h
    refine lv_aload_n hx hb d_By_add_12 rfl (lv_at hl 0 rfl) ?_
    refine ob_getR (k := 0) Cx hP ck_0 rfl w_f_By_9 d_By_add_13 h (fun n13 h => ?_)
    refine lv_aload_n hx hb d_By_add_16 rfl (lv_at hl 0 rfl) ?_
    refine ob_getI (k := 1) Cx hP ck_0 rfl w_f_By_15 d_By_add_17 h (fun x17 h => ?_)
    refine lv_iload_n hx hb d_By_add_20 rfl (lv_at hl 1 rfl) ?_
    refine lv_sipush (v := 255) hx hb d_By_add_21 (by decide) ?_
    refine lv_iand hx hb d_By_add_24 ?_
    refine ob_astI Cx hP hS d_By_add_25 h (fun t25 H locs h hP hS => ?_)
    refine lv_aload_n hx hb d_By_add_26 rfl (lv_at hl 0 rfl) ?_
    refine lv_dup hx hb d_By_add_27 rfl ?_
    refine ob_getI (k := 1) Cx hP ck_0 rfl w_f_By_15 d_By_add_28 h (fun x28 h => ?_)
    refine lv_iconst (v := 1) hx hb d_By_add_31 (by decide) ?_
    refine lv_iadd hx hb d_By_add_32 ?_
    refine ob_putI (k := 1) Cx hP hS ck_0 rfl rfl rfl w_f_By_15 d_By_add_33 h (fun t33 H locs h hP hS => ?_)
    exact ob_vret Cx hP hS d_By_add_36 h
theorem g_Wr_begin (v0 : Nat) (v1 : Int32) (v2 : Int32) (v3 : Int32) (v4 : Int32) {t : ob_S} {out : ob_S} (h : X_Wr_begin v0 v1 v2 v3 v4 t = some out) : v0 < ob_n t ∧ ob_k t v0 = 4 := by
  unfold X_Wr_begin ob_this at h
  by_cases q : v0 < ob_n t ∧ ob_k t v0 = 4
  · exact q
  · rw [if_neg q] at h
    cases h
set_option maxHeartbeats 4000000 in
set_option maxRecDepth 100000 in
theorem c_Wr_begin {l : Launch} {b : Nat} {D : va_G} {cA : Nat → ClassId} {adK adV : Nat → Nat} (v0 : Nat) (v1 : Int32) (v2 : Int32) (v3 : Int32) (v4 : Int32) {t : ob_S} {out : ob_S} (h : X_Wr_begin v0 v1 v2 v3 v4 t = some out) : Met l y_Wr_begin (Cond.code y_Wr_begin cb_Wr_begin 5 none :: ob_T) { frames := 1, cells := 0, slots := 0, locals := 21 } (ob_Pre b D cA adK adV [.ref (b + v0), .int v1, .int v2, .int v3, .int v4] t) (ob_Qv b D cA out) 0 0 (ob_A b) := by
  refine ob_met (by decide) (Nat.le_of_ble_eq_true rfl) ?_
  intro p e R s m args below meth c ls Cx hP hS hl
  have hl : lv_has ls 5 [(0, .ref (b + v0)), (1, .int v1), (2, .int v2), (3, .int v3), (4, .int v4)] := hl
  have hx := Cx.1.1
  have hb := Cx.1.2.1
  have hg := g_Wr_begin v0 v1 v2 v3 v4 h
  unfold X_Wr_begin ob_this at h
  rw [if_pos hg] at h
  obtain ⟨H, hH⟩ : ∃ H, H = s.heap := ⟨_, rfl⟩
  obtain ⟨locs, hL⟩ : ∃ locs : List Loc, locs = [] := ⟨_, rfl⟩
  rw [← hH] at hP
  have hS : va_S (ob_A b) s.heap H locs := by rw [hH, hL]; exact hS
  suffices hW : W p l e R s m args below meth c H locs 0 0 (MQ below (ob_Qv b D cA out) args s 0 0 (ob_A b)) (F0 m 0 ls []) by rw [hH, hL] at hW; exact hW
  refine lv_aload_n hx hb d_Wr_begin_0 rfl (lv_at hl 0 rfl) ?_
  refine ob_getR (k := 0) Cx hP ck_4 rfl w_f_Wr_14 d_Wr_begin_1 h (fun n1 h => ?_)
  refine ob_cVv (nA := 0) (As := []) (rest := []) Cx hl.1 hP hS (fun o ho => c_By_clear n1 ho) (fun o ho => g_By_clear n1 ho) (by decide) (rfl : ob_cl[0]? = _) mv_By_clear w_m_Wr_24 rfl (by decide +kernel) ⟨rfl, rfl⟩ ⟨by decide, by decide⟩ (Nat.le_of_ble_eq_true rfl) rfl d_Wr_begin_4 h (fun t4 H locs h hP hS => ?_)
  refine lv_aload_n hx hb d_Wr_begin_7 rfl (lv_at hl 0 rfl) ?_
  refine ob_getR (k := 0) Cx hP ck_4 rfl w_f_Wr_14 d_Wr_begin_8 h (fun n8 h => ?_)
  refine lv_bipush (v := 64) hx hb d_Wr_begin_11 (by decide) ?_
  refine lv_bipush (v := 16) hx hb d_Wr_begin_13 (by decide) ?_
  refine lv_iload_n hx hb d_Wr_begin_15 rfl (lv_at hl 1 rfl) ?_
  refine lv_imul hx hb d_Wr_begin_16 ?_
  refine lv_iadd hx hb d_Wr_begin_17 ?_
  refine lv_iconst (v := 1) hx hb d_Wr_begin_18 (by decide) ?_
  refine lv_iadd hx hb d_Wr_begin_19 ?_
  refine ob_cVv (nA := 1) (As := [.int (((64 : Int32) + ((16 : Int32) * v1)) + (1 : Int32))]) (rest := []) Cx hl.1 hP hS (fun o ho => c_By_add n8 (((64 : Int32) + ((16 : Int32) * v1)) + (1 : Int32)) ho) (fun o ho => g_By_add n8 (((64 : Int32) + ((16 : Int32) * v1)) + (1 : Int32)) ho) (by decide) (rfl : ob_cl[0]? = _) mv_By_add w_m_Wr_27 rfl (by decide +kernel) ⟨rfl, rfl⟩ ⟨by decide, by decide⟩ (Nat.le_of_ble_eq_true rfl) rfl d_Wr_begin_20 h (fun t20 H locs h hP hS => ?_)
  refine lv_aload_n hx hb d_Wr_begin_23 rfl (lv_at hl 0 rfl) ?_
  refine ob_getR (k := 0) Cx hP ck_4 rfl w_f_Wr_14 d_Wr_begin_24 h (fun n24 h => ?_)
  refine lv_iload_n hx hb d_Wr_begin_27 rfl (lv_at hl 2 rfl) ?_
  refine ob_cVv (nA := 1) (As := [.int v2]) (rest := []) Cx hl.1 hP hS (fun o ho => c_By_add n24 v2 ho) (fun o ho => g_By_add n24 v2 ho) (by decide) (rfl : ob_cl[0]? = _) mv_By_add w_m_Wr_27 rfl (by decide +kernel) ⟨rfl, rfl⟩ ⟨by decide, by decide⟩ (Nat.le_of_ble_eq_true rfl) rfl d_Wr_begin_28 h (fun t28 H locs h hP hS => ?_)
  refine lv_aload_n hx hb d_Wr_begin_31 rfl (lv_at hl 0 rfl) ?_
  refine ob_getR (k := 0) Cx hP ck_4 rfl w_f_Wr_14 d_Wr_begin_32 h (fun n32 h => ?_)
  refine lv_iload_n hx hb d_Wr_begin_35 rfl (lv_at hl 3 rfl) ?_
  refine lv_bipush (v := 8) hx hb d_Wr_begin_36 (by decide) ?_
  refine lv_ishr hx hb d_Wr_begin_38 ?_
  refine ob_cVv (nA := 1) (As := [.int (v3 >>> ((8 : Int32) &&& 31))]) (rest := []) Cx hl.1 hP hS (fun o ho => c_By_add n32 (v3 >>> ((8 : Int32) &&& 31)) ho) (fun o ho => g_By_add n32 (v3 >>> ((8 : Int32) &&& 31)) ho) (by decide) (rfl : ob_cl[0]? = _) mv_By_add w_m_Wr_27 rfl (by decide +kernel) ⟨rfl, rfl⟩ ⟨by decide, by decide⟩ (Nat.le_of_ble_eq_true rfl) rfl d_Wr_begin_39 h (fun t39 H locs h hP hS => ?_)
  refine lv_aload_n hx hb d_Wr_begin_42 rfl (lv_at hl 0 rfl) ?_
  refine ob_getR (k := 0) Cx hP ck_4 rfl w_f_Wr_14 d_Wr_begin_43 h (fun n43 h => ?_)
  refine lv_iload_n hx hb d_Wr_begin_46 rfl (lv_at hl 3 rfl) ?_
  refine ob_cVv (nA := 1) (As := [.int v3]) (rest := []) Cx hl.1 hP hS (fun o ho => c_By_add n43 v3 ho) (fun o ho => g_By_add n43 v3 ho) (by decide) (rfl : ob_cl[0]? = _) mv_By_add w_m_Wr_27 rfl (by decide +kernel) ⟨rfl, rfl⟩ ⟨by decide, by decide⟩ (Nat.le_of_ble_eq_true rfl) rfl d_Wr_begin_47 h (fun t47 H locs h hP hS => ?_)
  refine lv_aload_n hx hb d_Wr_begin_50 rfl (lv_at hl 0 rfl) ?_
  refine ob_getR (k := 0) Cx hP ck_4 rfl w_f_Wr_14 d_Wr_begin_51 h (fun n51 h => ?_)
  refine lv_iload hx hb d_Wr_begin_54 (lv_at hl 4 rfl) ?_
  refine ob_cVv (nA := 1) (As := [.int v4]) (rest := []) Cx hl.1 hP hS (fun o ho => c_By_add n51 v4 ho) (fun o ho => g_By_add n51 v4 ho) (by decide) (rfl : ob_cl[0]? = _) mv_By_add w_m_Wr_27 rfl (by decide +kernel) ⟨rfl, rfl⟩ ⟨by decide, by decide⟩ (Nat.le_of_ble_eq_true rfl) rfl d_Wr_begin_56 h (fun t56 H locs h hP hS => ?_)
  refine lv_aload_n hx hb d_Wr_begin_59 rfl (lv_at hl 0 rfl) ?_
  refine lv_iconst (v := 0) hx hb d_Wr_begin_60 (by decide) ?_
  refine ob_putI (k := 1) Cx hP hS ck_4 rfl rfl rfl w_f_Wr_20 d_Wr_begin_61 h (fun t61 H locs h hP hS => ?_)
  exact ob_vret Cx hP hS d_Wr_begin_64 h
set_option maxHeartbeats 4000000 in
set_option maxRecDepth 100000 in
theorem tB_Sl_asksToWatch_18 {p : Program} {l : Launch} {e : Env} {R : Room} {s : State} {m : MethodId} {args : Array Value} {below : List Frame} {meth : Method} {c : Code} {b : Nat} {D : va_G} {cA : Nat → ClassId} {adK adV : Nat → Nat} {out : (Int32 × ob_S)} (Cx : ob_C p R s m args meth c cb_Sl_asksToWatch 1 "ObservedBlocks$Slot" (some .boolean) b D cA adK adV 0 0) : ∀ (t : ob_S) (H : Heap) (locs : List Loc) (ls : Array Slot), ob_H b D cA t H → va_S (ob_A b) s.heap H locs → lv_has ls 1 [] → B_Sl_asksToWatch_18 t = some out → W p l e R s m args below meth c H locs 0 0 (MQ below (ob_Qi b D cA out) args s 0 0 (ob_A b)) (F0 m 18 ls []) := by
  have hx := Cx.1.1
  have hb := Cx.1.2.1
  intro t H locs ls  hP hS hl h
  unfold B_Sl_asksToWatch_18 at h
  refine lv_iconst (v := 0) hx hb d_Sl_asksToWatch_18 (by decide) ?_
  exact ob_zret Cx hP hS d_Sl_asksToWatch_19 h
theorem g_Sl_asksToWatch (v0 : Nat) {t : ob_S} {out : (Int32 × ob_S)} (h : X_Sl_asksToWatch v0 t = some out) : v0 < ob_n t ∧ ob_k t v0 = 6 := by
  unfold X_Sl_asksToWatch ob_this at h
  by_cases q : v0 < ob_n t ∧ ob_k t v0 = 6
  · exact q
  · rw [if_neg q] at h
    cases h
set_option maxHeartbeats 4000000 in
set_option maxRecDepth 100000 in
theorem c_Sl_asksToWatch {l : Launch} {b : Nat} {D : va_G} {cA : Nat → ClassId} {adK adV : Nat → Nat} (v0 : Nat) {t : ob_S} {out : (Int32 × ob_S)} (h : X_Sl_asksToWatch v0 t = some out) : Met l y_Sl_asksToWatch (Cond.code y_Sl_asksToWatch cb_Sl_asksToWatch 1 (some .boolean) :: ob_T) { frames := 0, cells := 0, slots := 0, locals := 0 } (ob_Pre b D cA adK adV [.ref (b + v0)] t) (ob_Qi b D cA out) 0 0 (ob_A b) := by
  refine ob_met (by decide) (Nat.le_of_ble_eq_true rfl) ?_
  intro p e R s m args below meth c ls Cx hP hS hl
  have hl : lv_has ls 1 [(0, .ref (b + v0))] := hl
  have hx := Cx.1.1
  have hb := Cx.1.2.1
  have hg := g_Sl_asksToWatch v0 h
  unfold X_Sl_asksToWatch ob_this at h
  rw [if_pos hg] at h
  obtain ⟨H, hH⟩ : ∃ H, H = s.heap := ⟨_, rfl⟩
  obtain ⟨locs, hL⟩ : ∃ locs : List Loc, locs = [] := ⟨_, rfl⟩
  rw [← hH] at hP
  have hS : va_S (ob_A b) s.heap H locs := by rw [hH, hL]; exact hS
  suffices hW : W p l e R s m args below meth c H locs 0 0 (MQ below (ob_Qi b D cA out) args s 0 0 (ob_A b)) (F0 m 0 ls []) by rw [hH, hL] at hW; exact hW
  refine lv_aload_n hx hb d_Sl_asksToWatch_0 rfl (lv_at hl 0 rfl) ?_
  refine ob_getI (k := 10) Cx hP ck_6 rfl w_f_Sl_53 d_Sl_asksToWatch_1 h (fun x1 h => ?_)
  refine lv_if_eq (tgt := 18) hx hb d_Sl_asksToWatch_4 (by decide) (fun hq => ?_) (fun hq => ?_)
  · rw [if_pos hq] at h
    exact tB_Sl_asksToWatch_18 Cx t H locs ls hP hS (lv_sub hl [] rfl) h
  · rw [if_neg hq] at h
    refine lv_aload_n hx hb d_Sl_asksToWatch_7 rfl (lv_at hl 0 rfl) ?_
    refine ob_getI (k := 6) Cx hP ck_6 rfl w_f_Sl_46 d_Sl_asksToWatch_8 h (fun x8 h => ?_)
    refine lv_if_ne (tgt := 18) hx hb d_Sl_asksToWatch_11 (by decide) (fun hq => ?_) (fun hq => ?_)
    · rw [if_pos hq] at h
      exact tB_Sl_asksToWatch_18 Cx t H locs ls hP hS (lv_sub hl [] rfl) h
    · rw [if_neg (fun z => z hq)] at h
      refine lv_iconst (v := 1) hx hb d_Sl_asksToWatch_14 (by decide) ?_
      refine lv_goto (tgt := 19) hx hb d_Sl_asksToWatch_15 (by decide) ?_
      exact ob_zret Cx hP hS d_Sl_asksToWatch_19 h
set_option maxHeartbeats 4000000 in
set_option maxRecDepth 100000 in
theorem tB_Wr_addHead_42 {p : Program} {l : Launch} {e : Env} {R : Room} {s : State} {m : MethodId} {args : Array Value} {below : List Frame} {meth : Method} {c : Code} {b : Nat} {D : va_G} {cA : Nat → ClassId} {adK adV : Nat → Nat} {out : ob_S} (Cx : ob_C p R s m args meth c cb_Wr_addHead 4 "ObservedBlocks$Writer" none b D cA adK adV 1 21) : ∀ (t : ob_S) (H : Heap) (locs : List Loc) (ls : Array Slot) (v0 : Nat) (v1 : Int32), ob_H b D cA t H → va_S (ob_A b) s.heap H locs → lv_has ls 4 [(0, .ref (b + v0)), (1, .int v1)] → B_Wr_addHead_42 v0 v1 t = some out → W p l e R s m args below meth c H locs 0 0 (MQ below (ob_Qv b D cA out) args s 0 0 (ob_A b)) (F0 m 42 ls []) := by
  have hx := Cx.1.1
  have hb := Cx.1.2.1
  intro t H locs ls v0 v1 hP hS hl h
  unfold B_Wr_addHead_42 at h
  refine lv_aload_n hx hb d_Wr_addHead_42 rfl (lv_at hl 0 rfl) ?_
  refine lv_iload_n hx hb d_Wr_addHead_43 rfl (lv_at hl 1 rfl) ?_
  refine ob_putI (k := 1) Cx hP hS ck_4 rfl rfl rfl w_f_Wr_20 d_Wr_addHead_44 h (fun t44 H locs h hP hS => ?_)
  exact ob_vret Cx hP hS d_Wr_addHead_47 h
theorem g_Wr_addHead (v0 : Nat) (v1 : Int32) (v2 : Int32) {t : ob_S} {out : ob_S} (h : X_Wr_addHead v0 v1 v2 t = some out) : v0 < ob_n t ∧ ob_k t v0 = 4 := by
  unfold X_Wr_addHead ob_this at h
  by_cases q : v0 < ob_n t ∧ ob_k t v0 = 4
  · exact q
  · rw [if_neg q] at h
    cases h
set_option maxHeartbeats 4000000 in
set_option maxRecDepth 100000 in
theorem c_Wr_addHead {l : Launch} {b : Nat} {D : va_G} {cA : Nat → ClassId} {adK adV : Nat → Nat} (v0 : Nat) (v1 : Int32) (v2 : Int32) {t : ob_S} {out : ob_S} (h : X_Wr_addHead v0 v1 v2 t = some out) : Met l y_Wr_addHead (Cond.code y_Wr_addHead cb_Wr_addHead 4 none :: ob_T) { frames := 1, cells := 0, slots := 0, locals := 21 } (ob_Pre b D cA adK adV [.ref (b + v0), .int v1, .int v2] t) (ob_Qv b D cA out) 0 0 (ob_A b) := by
  refine ob_met (by decide) (Nat.le_of_ble_eq_true rfl) ?_
  intro p e R s m args below meth c ls Cx hP hS hl
  have hl : lv_has ls 4 [(0, .ref (b + v0)), (1, .int v1), (2, .int v2)] := hl
  have hx := Cx.1.1
  have hb := Cx.1.2.1
  have hg := g_Wr_addHead v0 v1 v2 h
  unfold X_Wr_addHead ob_this at h
  rw [if_pos hg] at h
  obtain ⟨H, hH⟩ : ∃ H, H = s.heap := ⟨_, rfl⟩
  obtain ⟨locs, hL⟩ : ∃ locs : List Loc, locs = [] := ⟨_, rfl⟩
  rw [← hH] at hP
  have hS : va_S (ob_A b) s.heap H locs := by rw [hH, hL]; exact hS
  suffices hW : W p l e R s m args below meth c H locs 0 0 (MQ below (ob_Qv b D cA out) args s 0 0 (ob_A b)) (F0 m 0 ls []) by rw [hH, hL] at hW; exact hW
  refine lv_iload_n hx hb d_Wr_addHead_0 rfl (lv_at hl 1 rfl) ?_
  refine lv_aload_n hx hb d_Wr_addHead_1 rfl (lv_at hl 0 rfl) ?_
  refine ob_getI (k := 1) Cx hP ck_4 rfl w_f_Wr_20 d_Wr_addHead_2 h (fun x2 h => ?_)
  refine lv_isub hx hb d_Wr_addHead_5 ?_
  refine lv_istore_n (lv' := [(3, .int (v1 - x2)), (0, .ref (b + v0)), (1, .int v1), (2, .int v2)]) hx hb d_Wr_addHead_6 rfl hl (by decide) rfl (fun ls hl => ?_)
  refine lv_aload_n hx hb d_Wr_addHead_7 rfl (lv_at hl 1 rfl) ?_
  refine ob_getR (k := 0) Cx hP ck_4 rfl w_f_Wr_14 d_Wr_addHead_8 h (fun n8 h => ?_)
  refine lv_bipush (v := 16) hx hb d_Wr_addHead_11 (by decide) ?_
  refine lv_iload_n hx hb d_Wr_addHead_13 rfl (lv_at hl 0 rfl) ?_
  refine lv_bipush (v := 13) hx hb d_Wr_addHead_14 (by decide) ?_
  refine ob_min Cx hl.1 (by decide) (Nat.le_of_ble_eq_true rfl) ⟨Nat.zero_le _, Nat.zero_le _⟩ w_m_Wr_52 d_Wr_addHead_16 ?_
  refine lv_imul hx hb d_Wr_addHead_19 ?_
  refine lv_iload_n hx hb d_Wr_addHead_20 rfl (lv_at hl 3 rfl) ?_
  refine lv_iadd hx hb d_Wr_addHead_21 ?_
  refine ob_cVv (nA := 1) (As := [.int (((16 : Int32) * (ob_mn (v1 - x2) (13 : Int32))) + v2)]) (rest := []) Cx hl.1 hP hS (fun o ho => c_By_add n8 (((16 : Int32) * (ob_mn (v1 - x2) (13 : Int32))) + v2) ho) (fun o ho => g_By_add n8 (((16 : Int32) * (ob_mn (v1 - x2) (13 : Int32))) + v2) ho) (by decide) (rfl : ob_cl[0]? = _) mv_By_add w_m_Wr_27 rfl (by decide +kernel) ⟨rfl, rfl⟩ ⟨by decide, by decide⟩ (Nat.le_of_ble_eq_true rfl) rfl d_Wr_addHead_22 h (fun t22 H locs h hP hS => ?_)
  refine lv_iload_n hx hb d_Wr_addHead_25 rfl (lv_at hl 0 rfl) ?_
  refine lv_bipush (v := 13) hx hb d_Wr_addHead_26 (by decide) ?_
  refine lv_icmp_lt (tgt := 42) hx hb d_Wr_addHead_28 (by decide) (fun hq => ?_) (fun hq => ?_)
  · rw [if_pos hq] at h
    exact tB_Wr_addHead_42 Cx t22 H locs ls v0 v1 hP hS (lv_sub hl [1, 2] rfl) h
  · rw [if_neg hq] at h
    refine lv_aload_n hx hb d_Wr_addHead_31 rfl (lv_at hl 1 rfl) ?_
    refine ob_getR (k := 0) Cx hP ck_4 rfl w_f_Wr_14 d_Wr_addHead_32 h (fun n32 h => ?_)
    refine lv_iload_n hx hb d_Wr_addHead_35 rfl (lv_at hl 0 rfl) ?_
    refine lv_bipush (v := 13) hx hb d_Wr_addHead_36 (by decide) ?_
    refine lv_isub hx hb d_Wr_addHead_38 ?_
    refine ob_cVv (nA := 1) (As := [.int ((v1 - x2) - (13 : Int32))]) (rest := []) Cx hl.1 hP hS (fun o ho => c_By_add n32 ((v1 - x2) - (13 : Int32)) ho) (fun o ho => g_By_add n32 ((v1 - x2) - (13 : Int32)) ho) (by decide) (rfl : ob_cl[0]? = _) mv_By_add w_m_Wr_27 rfl (by decide +kernel) ⟨rfl, rfl⟩ ⟨by decide, by decide⟩ (Nat.le_of_ble_eq_true rfl) rfl d_Wr_addHead_39 h (fun t39 H locs h hP hS => ?_)
    exact tB_Wr_addHead_42 Cx t39 H locs ls v0 v1 hP hS (lv_sub hl [1, 2] rfl) h
set_option maxHeartbeats 4000000 in
set_option maxRecDepth 100000 in
theorem tB_Wr_addNumber_43 {p : Program} {l : Launch} {e : Env} {R : Room} {s : State} {m : MethodId} {args : Array Value} {below : List Frame} {meth : Method} {c : Code} {b : Nat} {D : va_G} {cA : Nat → ClassId} {adK adV : Nat → Nat} {out : ob_S} (Cx : ob_C p R s m args meth c cb_Wr_addNumber 4 "ObservedBlocks$Writer" none b D cA adK adV 2 44) : ∀ (t : ob_S) (H : Heap) (locs : List Loc) (ls : Array Slot) (v0 : Nat) (v2 : Int32) (v3 : Int32), ob_H b D cA t H → va_S (ob_A b) s.heap H locs → lv_has ls 4 [(0, .ref (b + v0)), (2, .int v2), (3, .int v3)] → B_Wr_addNumber_43 v0 v2 v3 t = some out → W p l e R s m args below meth c H locs 0 0 (MQ below (ob_Qv b D cA out) args s 0 0 (ob_A b)) (F0 m 43 ls []) := by
  have hx := Cx.1.1
  have hb := Cx.1.2.1
  intro t H locs ls v0 v2 v3 hP hS hl h
  unfold B_Wr_addNumber_43 at h
  refine lv_iload_n hx hb d_Wr_addNumber_43 rfl (lv_at hl 2 rfl) ?_
  refine lv_if_eq (tgt := 55) hx hb d_Wr_addNumber_44 (by decide) (fun hq => ?_) (fun hq => ?_)
  · rw [if_pos hq] at h
    exact ob_vret Cx hP hS d_Wr_addNumber_55 h
  · rw [if_neg hq] at h
    refine lv_aload_n hx hb d_Wr_addNumber_47 rfl (lv_at hl 0 rfl) ?_
    refine ob_getR (k := 0) Cx hP ck_4 rfl w_f_Wr_14 d_Wr_addNumber_48 h (fun n48 h => ?_)
    refine lv_iload_n hx hb d_Wr_addNumber_51 rfl (lv_at hl 1 rfl) ?_
    refine ob_cVv (nA := 1) (As := [.int v2]) (rest := []) Cx hl.1 hP hS (fun o ho => c_By_add n48 v2 ho) (fun o ho => g_By_add n48 v2 ho) (by decide) (rfl : ob_cl[0]? = _) mv_By_add w_m_Wr_27 rfl (by decide +kernel) ⟨rfl, rfl⟩ ⟨by decide, by decide⟩ (Nat.le_of_ble_eq_true rfl) rfl d_Wr_addNumber_52 h (fun t52 H locs h hP hS => ?_)
    exact ob_vret Cx hP hS d_Wr_addNumber_55 h
set_option maxHeartbeats 4000000 in
set_option maxRecDepth 100000 in
theorem tB_Wr_addNumber_20 {p : Program} {l : Launch} {e : Env} {R : Room} {s : State} {m : MethodId} {args : Array Value} {below : List Frame} {meth : Method} {c : Code} {b : Nat} {D : va_G} {cA : Nat → ClassId} {adK adV : Nat → Nat} {out : ob_S} (Cx : ob_C p R s m args meth c cb_Wr_addNumber 4 "ObservedBlocks$Writer" none b D cA adK adV 2 44) : ∀ (t : ob_S) (H : Heap) (locs : List Loc) (ls : Array Slot) (v0 : Nat) (v1 : Int32) (v2 : Int32) (s0 : Int32), ob_H b D cA t H → va_S (ob_A b) s.heap H locs → lv_has ls 4 [(0, .ref (b + v0)), (1, .int v1), (2, .int v2)] → B_Wr_addNumber_20 v0 v1 v2 s0 t = some out → W p l e R s m args below meth c H locs 0 0 (MQ below (ob_Qv b D cA out) args s 0 0 (ob_A b)) (F0 m 20 ls [.int s0]) := by
  have hx := Cx.1.1
  have hb := Cx.1.2.1
  intro t H locs ls v0 v1 v2 s0 hP hS hl h
  unfold B_Wr_addNumber_20 at h
  refine lv_istore_n (lv' := [(3, .int s0), (0, .ref (b + v0)), (1, .int v1), (2, .int v2)]) hx hb d_Wr_addNumber_20 rfl hl (by decide) rfl (fun ls hl => ?_)
  refine lv_aload_n hx hb d_Wr_addNumber_21 rfl (lv_at hl 1 rfl) ?_
  refine lv_iload_n hx hb d_Wr_addNumber_22 rfl (lv_at hl 2 rfl) ?_
  refine lv_iload_n hx hb d_Wr_addNumber_23 rfl (lv_at hl 0 rfl) ?_
  refine ob_cVv (nA := 2) (As := [.int v1, .int s0]) (rest := []) Cx hl.1 hP hS (fun o ho => c_Wr_addHead v0 v1 s0 ho) (fun o ho => g_Wr_addHead v0 v1 s0 ho) (by decide) (rfl : ob_cl[4]? = _) mv_Wr_addHead w_m_Wr_30 rfl (by decide +kernel) ⟨rfl, rfl⟩ ⟨by decide, by decide⟩ (Nat.le_of_ble_eq_true rfl) rfl d_Wr_addNumber_24 h (fun t24 H locs h hP hS => ?_)
  refine lv_iload_n hx hb d_Wr_addNumber_27 rfl (lv_at hl 0 rfl) ?_
  refine lv_iconst (v := 2) hx hb d_Wr_addNumber_28 (by decide) ?_
  refine lv_icmp_ne (tgt := 43) hx hb d_Wr_addNumber_29 (by decide) (fun hq => ?_) (fun hq => ?_)
  · rw [if_pos hq] at h
    exact tB_Wr_addNumber_43 Cx t24 H locs ls v0 v2 s0 hP hS (lv_sub hl [1, 3, 0] rfl) h
  · rw [if_neg (fun z => z hq)] at h
    refine lv_aload_n hx hb d_Wr_addNumber_32 rfl (lv_at hl 1 rfl) ?_
    refine ob_getR (k := 0) Cx hP ck_4 rfl w_f_Wr_14 d_Wr_addNumber_33 h (fun n33 h => ?_)
    refine lv_iload_n hx hb d_Wr_addNumber_36 rfl (lv_at hl 3 rfl) ?_
    refine lv_bipush (v := 8) hx hb d_Wr_addNumber_37 (by decide) ?_
    refine lv_ishr hx hb d_Wr_addNumber_39 ?_
    refine ob_cVv (nA := 1) (As := [.int (v2 >>> ((8 : Int32) &&& 31))]) (rest := []) Cx hl.1 hP hS (fun o ho => c_By_add n33 (v2 >>> ((8 : Int32) &&& 31)) ho) (fun o ho => g_By_add n33 (v2 >>> ((8 : Int32) &&& 31)) ho) (by decide) (rfl : ob_cl[0]? = _) mv_By_add w_m_Wr_27 rfl (by decide +kernel) ⟨rfl, rfl⟩ ⟨by decide, by decide⟩ (Nat.le_of_ble_eq_true rfl) rfl d_Wr_addNumber_40 h (fun t40 H locs h hP hS => ?_)
    exact tB_Wr_addNumber_43 Cx t40 H locs ls v0 v2 s0 hP hS (lv_sub hl [1, 3, 0] rfl) h
theorem g_Wr_addNumber (v0 : Nat) (v1 : Int32) (v2 : Int32) {t : ob_S} {out : ob_S} (h : X_Wr_addNumber v0 v1 v2 t = some out) : v0 < ob_n t ∧ ob_k t v0 = 4 := by
  unfold X_Wr_addNumber ob_this at h
  by_cases q : v0 < ob_n t ∧ ob_k t v0 = 4
  · exact q
  · rw [if_neg q] at h
    cases h
set_option maxHeartbeats 4000000 in
set_option maxRecDepth 100000 in
theorem c_Wr_addNumber {l : Launch} {b : Nat} {D : va_G} {cA : Nat → ClassId} {adK adV : Nat → Nat} (v0 : Nat) (v1 : Int32) (v2 : Int32) {t : ob_S} {out : ob_S} (h : X_Wr_addNumber v0 v1 v2 t = some out) : Met l y_Wr_addNumber (Cond.code y_Wr_addNumber cb_Wr_addNumber 4 none :: ob_T) { frames := 2, cells := 0, slots := 0, locals := 44 } (ob_Pre b D cA adK adV [.ref (b + v0), .int v1, .int v2] t) (ob_Qv b D cA out) 0 0 (ob_A b) := by
  refine ob_met (by decide) (Nat.le_of_ble_eq_true rfl) ?_
  intro p e R s m args below meth c ls Cx hP hS hl
  have hl : lv_has ls 4 [(0, .ref (b + v0)), (1, .int v1), (2, .int v2)] := hl
  have hx := Cx.1.1
  have hb := Cx.1.2.1
  have hg := g_Wr_addNumber v0 v1 v2 h
  unfold X_Wr_addNumber ob_this at h
  rw [if_pos hg] at h
  obtain ⟨H, hH⟩ : ∃ H, H = s.heap := ⟨_, rfl⟩
  obtain ⟨locs, hL⟩ : ∃ locs : List Loc, locs = [] := ⟨_, rfl⟩
  rw [← hH] at hP
  have hS : va_S (ob_A b) s.heap H locs := by rw [hH, hL]; exact hS
  suffices hW : W p l e R s m args below meth c H locs 0 0 (MQ below (ob_Qv b D cA out) args s 0 0 (ob_A b)) (F0 m 0 ls []) by rw [hH, hL] at hW; exact hW
  refine lv_iload_n hx hb d_Wr_addNumber_0 rfl (lv_at hl 2 rfl) ?_
  refine lv_if_ne (tgt := 8) hx hb d_Wr_addNumber_1 (by decide) (fun hq => ?_) (fun hq => ?_)
  · rw [if_pos hq] at h
    refine lv_iload_n hx hb d_Wr_addNumber_8 rfl (lv_at hl 2 rfl) ?_
    refine lv_sipush (v := 256) hx hb d_Wr_addNumber_9 (by decide) ?_
    refine lv_icmp_ge (tgt := 19) hx hb d_Wr_addNumber_12 (by decide) (fun hq => ?_) (fun hq => ?_)
    · rw [if_pos hq] at h
      refine lv_iconst (v := 2) hx hb d_Wr_addNumber_19 (by decide) ?_
      exact tB_Wr_addNumber_20 Cx t H locs ls v0 v1 v2 (2 : Int32) hP hS (lv_sub hl [0, 1, 2] rfl) h
    · rw [if_neg hq] at h
      refine lv_iconst (v := 1) hx hb d_Wr_addNumber_15 (by decide) ?_
      refine lv_goto (tgt := 20) hx hb d_Wr_addNumber_16 (by decide) ?_
      exact tB_Wr_addNumber_20 Cx t H locs ls v0 v1 v2 (1 : Int32) hP hS (lv_sub hl [0, 1, 2] rfl) h
  · rw [if_neg (fun z => z hq)] at h
    refine lv_iconst (v := 0) hx hb d_Wr_addNumber_4 (by decide) ?_
    refine lv_goto (tgt := 20) hx hb d_Wr_addNumber_5 (by decide) ?_
    exact tB_Wr_addNumber_20 Cx t H locs ls v0 v1 v2 (0 : Int32) hP hS (lv_sub hl [0, 1, 2] rfl) h
set_option maxHeartbeats 4000000 in
set_option maxRecDepth 100000 in
theorem c_Ob_firstSegmentOf {l : Launch} {b : Nat} {D : va_G} {cA : Nat → ClassId} {adK adV : Nat → Nat} (v0 : Int32) {t : ob_S} {out : (Nat × ob_S)} (h : X_Ob_firstSegmentOf v0 t = some out) : Met l y_Ob_firstSegmentOf (Cond.code y_Ob_firstSegmentOf cb_Ob_firstSegmentOf 1 (some (.object "java/lang/String")) :: ob_T) { frames := 0, cells := 0, slots := 0, locals := 0 } (ob_Pre b D cA adK adV [.int v0] t) (ob_Qs b D cA adK out) 0 0 (ob_A b) := by
  refine ob_met (by decide) (Nat.le_of_ble_eq_true rfl) ?_
  intro p e R s m args below meth c ls Cx hP hS hl
  have hl : lv_has ls 1 [(0, .int v0)] := hl
  have hx := Cx.1.1
  have hb := Cx.1.2.1
  unfold X_Ob_firstSegmentOf at h
  obtain ⟨H, hH⟩ : ∃ H, H = s.heap := ⟨_, rfl⟩
  obtain ⟨locs, hL⟩ : ∃ locs : List Loc, locs = [] := ⟨_, rfl⟩
  rw [← hH] at hP
  have hS : va_S (ob_A b) s.heap H locs := by rw [hH, hL]; exact hS
  suffices hW : W p l e R s m args below meth c H locs 0 0 (MQ below (ob_Qs b D cA adK out) args s 0 0 (ob_A b)) (F0 m 0 ls []) by rw [hH, hL] at hW; exact hW
  refine lv_iload_n hx hb d_Ob_firstSegmentOf_0 rfl (lv_at hl 0 rfl) ?_
  by_cases hc1_0 : v0 = (0 : Int32)
  · rw [if_pos hc1_0] at h
    refine lv_tableIn (tgt := 32) (off := 31) hx hb d_Ob_firstSegmentOf_1 (by rw [hc1_0]; decide) (by rw [hc1_0]; decide) (by rw [hc1_0]; decide) (by decide) ?_
    refine ob_ldcS (i := 0) Cx (by decide) rfl d_Ob_firstSegmentOf_32 ?_
    exact ob_sret Cx hP hS d_Ob_firstSegmentOf_34 h
  · rw [if_neg hc1_0] at h
    by_cases hc1_1 : v0 = (1 : Int32)
    · rw [if_pos hc1_1] at h
      refine lv_tableIn (tgt := 32) (off := 31) hx hb d_Ob_firstSegmentOf_1 (by rw [hc1_1]; decide) (by rw [hc1_1]; decide) (by rw [hc1_1]; decide) (by decide) ?_
      refine ob_ldcS (i := 0) Cx (by decide) rfl d_Ob_firstSegmentOf_32 ?_
      exact ob_sret Cx hP hS d_Ob_firstSegmentOf_34 h
    · rw [if_neg hc1_1] at h
      by_cases hc1_2 : v0 = (2 : Int32)
      · rw [if_pos hc1_2] at h
        refine lv_tableIn (tgt := 35) (off := 34) hx hb d_Ob_firstSegmentOf_1 (by rw [hc1_2]; decide) (by rw [hc1_2]; decide) (by rw [hc1_2]; decide) (by decide) ?_
        refine ob_ldcS (i := 1) Cx (by decide) rfl d_Ob_firstSegmentOf_35 ?_
        exact ob_sret Cx hP hS d_Ob_firstSegmentOf_37 h
      · rw [if_neg hc1_2] at h
        by_cases hc1_3 : v0 = (3 : Int32)
        · rw [if_pos hc1_3] at h
          refine lv_tableIn (tgt := 35) (off := 34) hx hb d_Ob_firstSegmentOf_1 (by rw [hc1_3]; decide) (by rw [hc1_3]; decide) (by rw [hc1_3]; decide) (by decide) ?_
          refine ob_ldcS (i := 1) Cx (by decide) rfl d_Ob_firstSegmentOf_35 ?_
          exact ob_sret Cx hP hS d_Ob_firstSegmentOf_37 h
        · rw [if_neg hc1_3] at h
          have nhc1_0 := lv_neT hc1_0 (show ((0 : Int32)).toInt = 0 by decide)
          have nhc1_1 := lv_neT hc1_1 (show ((1 : Int32)).toInt = 1 by decide)
          have nhc1_2 := lv_neT hc1_2 (show ((2 : Int32)).toInt = 2 by decide)
          have nhc1_3 := lv_neT hc1_3 (show ((3 : Int32)).toInt = 3 by decide)
          refine lv_tableOut (tgt := 38) hx hb d_Ob_firstSegmentOf_1 (by omega) (by decide) ?_
          refine ob_ldcS (i := 2) Cx (by decide) rfl d_Ob_firstSegmentOf_38 ?_
          exact ob_sret Cx hP hS d_Ob_firstSegmentOf_40 h
set_option maxHeartbeats 4000000 in
set_option maxRecDepth 100000 in
theorem tB_Wr_addSegment_12 {p : Program} {l : Launch} {e : Env} {R : Room} {s : State} {m : MethodId} {args : Array Value} {below : List Frame} {meth : Method} {c : Code} {b : Nat} {D : va_G} {cA : Nat → ClassId} {adK adV : Nat → Nat} {out : ob_S} (Cx : ob_C p R s m args meth c cb_Wr_addSegment 3 "ObservedBlocks$Writer" none b D cA adK adV 4 85) : ∀ (fu : Nat), ∀ (t : ob_S) (H : Heap) (locs : List Loc) (ls : Array Slot) (v0 : Nat) (v1 : Nat) (v2 : Int32), ob_H b D cA t H → va_S (ob_A b) s.heap H locs → lv_has ls 3 [(0, .ref (b + v0)), (1, .ref (adK v1)), (2, .int v2)] → B_Wr_addSegment_12 fu v0 v1 v2 t = some out → W p l e R s m args below meth c H locs 0 0 (MQ below (ob_Qv b D cA out) args s 0 0 (ob_A b)) (F0 m 12 ls []) := by
  have hx := Cx.1.1
  have hb := Cx.1.2.1
  intro fu
  induction fu with
  | zero =>
    intro t H locs ls v0 v1 v2 hP hS hl h
    cases h
  | succ fu ih =>
    intro t H locs ls v0 v1 v2 hP hS hl h
    rw [B_Wr_addSegment_12] at h
    refine lv_iload_n hx hb d_Wr_addSegment_12 rfl (lv_at hl 2 rfl) ?_
    refine lv_aload_n hx hb d_Wr_addSegment_13 rfl (lv_at hl 1 rfl) ?_
    refine ob_cTi (nA := 0) (As := []) (rest := [.int v2]) Cx hl.1 hP hS (fun o ho => c_Str_length v1 ho) (fun o ho => g_Str_length v1 ho) mv_Str_length w_m_Wr_34 rfl (by decide +kernel) ⟨rfl, rfl⟩ ⟨by decide, by decide⟩ (Nat.le_of_ble_eq_true rfl) rfl d_Wr_addSegment_14 h (fun x14 t14 H locs h hP hS => ?_)
    refine lv_icmp_ge (tgt := 38) hx hb d_Wr_addSegment_17 (by decide) (fun hq => ?_) (fun hq => ?_)
    · rw [if_pos hq] at h
      exact ob_vret Cx hP hS d_Wr_addSegment_38 h
    · rw [if_neg hq] at h
      refine lv_aload_n hx hb d_Wr_addSegment_20 rfl (lv_at hl 0 rfl) ?_
      refine ob_getR (k := 0) Cx hP ck_4 rfl w_f_Wr_14 d_Wr_addSegment_21 h (fun n21 h => ?_)
      refine lv_aload_n hx hb d_Wr_addSegment_24 rfl (lv_at hl 1 rfl) ?_
      refine lv_iload_n hx hb d_Wr_addSegment_25 rfl (lv_at hl 2 rfl) ?_
      refine ob_cTi (nA := 1) (As := [.int v2]) (rest := [.ref (b + n21)]) Cx hl.1 hP hS (fun o ho => c_Str_charAt v1 v2 ho) (fun o ho => g_Str_charAt v1 v2 ho) mv_Str_charAt w_m_Wr_40 rfl (by decide +kernel) ⟨rfl, rfl⟩ ⟨by decide, by decide⟩ (Nat.le_of_ble_eq_true rfl) rfl d_Wr_addSegment_26 h (fun x26 t26 H locs h hP hS => ?_)
      refine ob_cVv (nA := 1) (As := [.int x26]) (rest := []) Cx hl.1 hP hS (fun o ho => c_By_add n21 x26 ho) (fun o ho => g_By_add n21 x26 ho) (by decide) (rfl : ob_cl[0]? = _) mv_By_add w_m_Wr_27 rfl (by decide +kernel) ⟨rfl, rfl⟩ ⟨by decide, by decide⟩ (Nat.le_of_ble_eq_true rfl) rfl d_Wr_addSegment_29 h (fun t29 H locs h hP hS => ?_)
      refine lv_iinc (v := (v2 + (1 : Int32))) (lv' := [(2, .int (v2 + (1 : Int32))), (0, .ref (b + v0)), (1, .ref (adK v1))]) hx hb d_Wr_addSegment_32 hl (k := 2) rfl rfl (by decide) rfl (fun ls hl => ?_)
      refine lv_goto (tgt := 12) hx hb d_Wr_addSegment_35 (by decide) ?_
      exact ih t29 H locs ls v0 v1 (v2 + (1 : Int32)) hP hS (lv_sub hl [1, 2, 0] rfl) h
theorem g_Wr_addSegment (v0 : Nat) (v1 : Nat) {t : ob_S} {out : ob_S} (h : X_Wr_addSegment v0 v1 t = some out) : v0 < ob_n t ∧ ob_k t v0 = 4 := by
  unfold X_Wr_addSegment ob_this at h
  by_cases q : v0 < ob_n t ∧ ob_k t v0 = 4
  · exact q
  · rw [if_neg q] at h
    cases h
set_option maxHeartbeats 4000000 in
set_option maxRecDepth 100000 in
theorem c_Wr_addSegment {l : Launch} {b : Nat} {D : va_G} {cA : Nat → ClassId} {adK adV : Nat → Nat} (v0 : Nat) (v1 : Nat) {t : ob_S} {out : ob_S} (h : X_Wr_addSegment v0 v1 t = some out) : Met l y_Wr_addSegment (Cond.code y_Wr_addSegment cb_Wr_addSegment 3 none :: ob_T) { frames := 4, cells := 0, slots := 0, locals := 85 } (ob_Pre b D cA adK adV [.ref (b + v0), .ref (adK v1)] t) (ob_Qv b D cA out) 0 0 (ob_A b) := by
  refine ob_met (by decide) (Nat.le_of_ble_eq_true rfl) ?_
  intro p e R s m args below meth c ls Cx hP hS hl
  have hl : lv_has ls 3 [(0, .ref (b + v0)), (1, .ref (adK v1))] := hl
  have hx := Cx.1.1
  have hb := Cx.1.2.1
  have hg := g_Wr_addSegment v0 v1 h
  unfold X_Wr_addSegment ob_this at h
  rw [if_pos hg] at h
  obtain ⟨H, hH⟩ : ∃ H, H = s.heap := ⟨_, rfl⟩
  obtain ⟨locs, hL⟩ : ∃ locs : List Loc, locs = [] := ⟨_, rfl⟩
  rw [← hH] at hP
  have hS : va_S (ob_A b) s.heap H locs := by rw [hH, hL]; exact hS
  suffices hW : W p l e R s m args below meth c H locs 0 0 (MQ below (ob_Qv b D cA out) args s 0 0 (ob_A b)) (F0 m 0 ls []) by rw [hH, hL] at hW; exact hW
  refine lv_aload_n hx hb d_Wr_addSegment_0 rfl (lv_at hl 0 rfl) ?_
  refine lv_bipush (v := 11) hx hb d_Wr_addSegment_1 (by decide) ?_
  refine lv_aload_n hx hb d_Wr_addSegment_3 rfl (lv_at hl 1 rfl) ?_
  refine ob_cTi (nA := 0) (As := []) (rest := [.int (11 : Int32), .ref (b + v0)]) Cx hl.1 hP hS (fun o ho => c_Str_length v1 ho) (fun o ho => g_Str_length v1 ho) mv_Str_length w_m_Wr_34 rfl (by decide +kernel) ⟨rfl, rfl⟩ ⟨by decide, by decide⟩ (Nat.le_of_ble_eq_true rfl) rfl d_Wr_addSegment_4 h (fun x4 t4 H locs h hP hS => ?_)
  refine ob_cVv (nA := 2) (As := [.int (11 : Int32), .int x4]) (rest := []) Cx hl.1 hP hS (fun o ho => c_Wr_addHead v0 (11 : Int32) x4 ho) (fun o ho => g_Wr_addHead v0 (11 : Int32) x4 ho) (by decide) (rfl : ob_cl[4]? = _) mv_Wr_addHead w_m_Wr_30 rfl (by decide +kernel) ⟨rfl, rfl⟩ ⟨by decide, by decide⟩ (Nat.le_of_ble_eq_true rfl) rfl d_Wr_addSegment_7 h (fun t7 H locs h hP hS => ?_)
  refine lv_iconst (v := 0) hx hb d_Wr_addSegment_10 (by decide) ?_
  refine lv_istore_n (lv' := [(2, .int (0 : Int32)), (0, .ref (b + v0)), (1, .ref (adK v1))]) hx hb d_Wr_addSegment_11 rfl hl (by decide) rfl (fun ls hl => ?_)
  exact tB_Wr_addSegment_12 Cx ob_fu t7 H locs ls v0 v1 (0 : Int32) hP hS (lv_sub hl [1, 2, 0] rfl) h
set_option maxHeartbeats 4000000 in
set_option maxRecDepth 100000 in
theorem c_Ob_secondSegmentOf {l : Launch} {b : Nat} {D : va_G} {cA : Nat → ClassId} {adK adV : Nat → Nat} (v0 : Int32) {t : ob_S} {out : (Nat × ob_S)} (h : X_Ob_secondSegmentOf v0 t = some out) : Met l y_Ob_secondSegmentOf (Cond.code y_Ob_secondSegmentOf cb_Ob_secondSegmentOf 1 (some (.object "java/lang/String")) :: ob_T) { frames := 0, cells := 0, slots := 0, locals := 0 } (ob_Pre b D cA adK adV [.int v0] t) (ob_Qs b D cA adK out) 0 0 (ob_A b) := by
  refine ob_met (by decide) (Nat.le_of_ble_eq_true rfl) ?_
  intro p e R s m args below meth c ls Cx hP hS hl
  have hl : lv_has ls 1 [(0, .int v0)] := hl
  have hx := Cx.1.1
  have hb := Cx.1.2.1
  unfold X_Ob_secondSegmentOf at h
  obtain ⟨H, hH⟩ : ∃ H, H = s.heap := ⟨_, rfl⟩
  obtain ⟨locs, hL⟩ : ∃ locs : List Loc, locs = [] := ⟨_, rfl⟩
  rw [← hH] at hP
  have hS : va_S (ob_A b) s.heap H locs := by rw [hH, hL]; exact hS
  suffices hW : W p l e R s m args below meth c H locs 0 0 (MQ below (ob_Qs b D cA adK out) args s 0 0 (ob_A b)) (F0 m 0 ls []) by rw [hH, hL] at hW; exact hW
  refine lv_iload_n hx hb d_Ob_secondSegmentOf_0 rfl (lv_at hl 0 rfl) ?_
  by_cases hc1_0 : v0 = (1 : Int32)
  · rw [if_pos hc1_0] at h
    refine lv_lookup (tgt := 28) (off := 27) hx hb d_Ob_secondSegmentOf_1 (by decide) (by rw [hc1_0]; decide) (by decide) ?_
    refine ob_ldcS (i := 3) Cx (by decide) rfl d_Ob_secondSegmentOf_28 ?_
    exact ob_sret Cx hP hS d_Ob_secondSegmentOf_30 h
  · rw [if_neg hc1_0] at h
    by_cases hc1_1 : v0 = (3 : Int32)
    · rw [if_pos hc1_1] at h
      refine lv_lookup (tgt := 31) (off := 30) hx hb d_Ob_secondSegmentOf_1 (by decide) (by rw [hc1_1]; decide) (by decide) ?_
      refine ob_ldcS (i := 4) Cx (by decide) rfl d_Ob_secondSegmentOf_31 ?_
      exact ob_sret Cx hP hS d_Ob_secondSegmentOf_33 h
    · rw [if_neg hc1_1] at h
      refine lv_lookup (tgt := 34) (off := 33) hx hb d_Ob_secondSegmentOf_1 (by decide) (by rw [lv_osw hc1_0 (show ((1 : Int32)).toInt = 1 by decide), lv_osw hc1_1 (show ((3 : Int32)).toInt = 3 by decide)]; rfl) (by decide) ?_
      refine ob_ldcS (i := 5) Cx (by decide) rfl d_Ob_secondSegmentOf_34 ?_
      exact ob_sret Cx hP hS d_Ob_secondSegmentOf_36 h
set_option maxHeartbeats 4000000 in
set_option maxRecDepth 100000 in
theorem c_Ob_sizeOf {l : Launch} {b : Nat} {D : va_G} {cA : Nat → ClassId} {adK adV : Nat → Nat} (v0 : Int32) {t : ob_S} {out : (Int32 × ob_S)} (h : X_Ob_sizeOf v0 t = some out) : Met l y_Ob_sizeOf (Cond.code y_Ob_sizeOf cb_Ob_sizeOf 1 (some .int) :: ob_T) { frames := 0, cells := 0, slots := 0, locals := 0 } (ob_Pre b D cA adK adV [.int v0] t) (ob_Qi b D cA out) 0 0 (ob_A b) := by
  refine ob_met (by decide) (Nat.le_of_ble_eq_true rfl) ?_
  intro p e R s m args below meth c ls Cx hP hS hl
  have hl : lv_has ls 1 [(0, .int v0)] := hl
  have hx := Cx.1.1
  have hb := Cx.1.2.1
  unfold X_Ob_sizeOf at h
  obtain ⟨H, hH⟩ : ∃ H, H = s.heap := ⟨_, rfl⟩
  obtain ⟨locs, hL⟩ : ∃ locs : List Loc, locs = [] := ⟨_, rfl⟩
  rw [← hH] at hP
  have hS : va_S (ob_A b) s.heap H locs := by rw [hH, hL]; exact hS
  suffices hW : W p l e R s m args below meth c H locs 0 0 (MQ below (ob_Qi b D cA out) args s 0 0 (ob_A b)) (F0 m 0 ls []) by rw [hH, hL] at hW; exact hW
  refine lv_iload_n hx hb d_Ob_sizeOf_0 rfl (lv_at hl 0 rfl) ?_
  refine lv_if_ne (tgt := 9) hx hb d_Ob_sizeOf_1 (by decide) (fun hq => ?_) (fun hq => ?_)
  · rw [if_pos hq] at h
    refine lv_bipush (v := 32) hx hb d_Ob_sizeOf_9 (by decide) ?_
    exact ob_iret Cx hP hS d_Ob_sizeOf_11 h
  · rw [if_neg (fun z => z hq)] at h
    refine lv_bipush (v := 16) hx hb d_Ob_sizeOf_4 (by decide) ?_
    refine lv_goto (tgt := 11) hx hb d_Ob_sizeOf_6 (by decide) ?_
    exact ob_iret Cx hP hS d_Ob_sizeOf_11 h
theorem g_Sl_hasMoreToPut (v0 : Nat) {t : ob_S} {out : (Int32 × ob_S)} (h : X_Sl_hasMoreToPut v0 t = some out) : v0 < ob_n t ∧ ob_k t v0 = 6 := by
  unfold X_Sl_hasMoreToPut ob_this at h
  by_cases q : v0 < ob_n t ∧ ob_k t v0 = 6
  · exact q
  · rw [if_neg q] at h
    cases h
set_option maxHeartbeats 4000000 in
set_option maxRecDepth 100000 in
theorem c_Sl_hasMoreToPut {l : Launch} {b : Nat} {D : va_G} {cA : Nat → ClassId} {adK adV : Nat → Nat} (v0 : Nat) {t : ob_S} {out : (Int32 × ob_S)} (h : X_Sl_hasMoreToPut v0 t = some out) : Met l y_Sl_hasMoreToPut (Cond.code y_Sl_hasMoreToPut cb_Sl_hasMoreToPut 1 (some .boolean) :: ob_T) { frames := 1, cells := 0, slots := 0, locals := 20 } (ob_Pre b D cA adK adV [.ref (b + v0)] t) (ob_Qi b D cA out) 0 0 (ob_A b) := by
  refine ob_met (by decide) (Nat.le_of_ble_eq_true rfl) ?_
  intro p e R s m args below meth c ls Cx hP hS hl
  have hl : lv_has ls 1 [(0, .ref (b + v0))] := hl
  have hx := Cx.1.1
  have hb := Cx.1.2.1
  have hg := g_Sl_hasMoreToPut v0 h
  unfold X_Sl_hasMoreToPut ob_this at h
  rw [if_pos hg] at h
  obtain ⟨H, hH⟩ : ∃ H, H = s.heap := ⟨_, rfl⟩
  obtain ⟨locs, hL⟩ : ∃ locs : List Loc, locs = [] := ⟨_, rfl⟩
  rw [← hH] at hP
  have hS : va_S (ob_A b) s.heap H locs := by rw [hH, hL]; exact hS
  suffices hW : W p l e R s m args below meth c H locs 0 0 (MQ below (ob_Qi b D cA out) args s 0 0 (ob_A b)) (F0 m 0 ls []) by rw [hH, hL] at hW; exact hW
  refine lv_aload_n hx hb d_Sl_hasMoreToPut_0 rfl (lv_at hl 0 rfl) ?_
  refine ob_getR (k := 0) Cx hP ck_6 rfl w_f_Sl_14 d_Sl_hasMoreToPut_1 h (fun n1 h => ?_)
  refine ob_getI (k := 1) Cx hP ck_0 rfl w_f_Sl_81 d_Sl_hasMoreToPut_4 h (fun x4 h => ?_)
  refine lv_aload_n hx hb d_Sl_hasMoreToPut_7 rfl (lv_at hl 0 rfl) ?_
  refine ob_getI (k := 6) Cx hP ck_6 rfl w_f_Sl_46 d_Sl_hasMoreToPut_8 h (fun x8 h => ?_)
  refine lv_iconst (v := 1) hx hb d_Sl_hasMoreToPut_11 (by decide) ?_
  refine lv_iadd hx hb d_Sl_hasMoreToPut_12 ?_
  refine lv_aload_n hx hb d_Sl_hasMoreToPut_13 rfl (lv_at hl 0 rfl) ?_
  refine ob_getI (k := 5) Cx hP ck_6 rfl w_f_Sl_43 d_Sl_hasMoreToPut_14 h (fun x14 h => ?_)
  refine ob_cNi (nA := 1) (As := [.int x14]) (rest := [.int (x8 + (1 : Int32)), .int x4]) Cx hl.1 hP hS (fun o ho => c_Ob_sizeOf x14 ho) ms_Ob_sizeOf w_n_Sl_84 rfl (by decide +kernel) ⟨rfl, rfl⟩ ⟨by decide, by decide⟩ (Nat.le_of_ble_eq_true rfl) rfl d_Sl_hasMoreToPut_17 h (fun x17 t17 H locs h hP hS => ?_)
  refine lv_imul hx hb d_Sl_hasMoreToPut_20 ?_
  refine lv_icmp_le (tgt := 28) hx hb d_Sl_hasMoreToPut_21 (by decide) (fun hq => ?_) (fun hq => ?_)
  · rw [if_pos hq] at h
    refine lv_iconst (v := 0) hx hb d_Sl_hasMoreToPut_28 (by decide) ?_
    exact ob_zret Cx hP hS d_Sl_hasMoreToPut_29 h
  · rw [if_neg hq] at h
    refine lv_iconst (v := 1) hx hb d_Sl_hasMoreToPut_24 (by decide) ?_
    refine lv_goto (tgt := 29) hx hb d_Sl_hasMoreToPut_25 (by decide) ?_
    exact ob_zret Cx hP hS d_Sl_hasMoreToPut_29 h
set_option maxHeartbeats 4000000 in
set_option maxRecDepth 100000 in
theorem tB_Ob_blockOf_14 {p : Program} {l : Launch} {e : Env} {R : Room} {s : State} {m : MethodId} {args : Array Value} {below : List Frame} {meth : Method} {c : Code} {b : Nat} {D : va_G} {cA : Nat → ClassId} {adK adV : Nat → Nat} {out : (Int32 × ob_S)} (Cx : ob_C p R s m args meth c cb_Ob_blockOf 3 "ObservedBlocks" (some .int) b D cA adK adV 0 0) : ∀ (t : ob_S) (H : Heap) (locs : List Loc) (ls : Array Slot) (v2 : Int32) (s0 : Int32) (s1 : Int32), ob_H b D cA t H → va_S (ob_A b) s.heap H locs → lv_has ls 3 [(2, .int v2)] → B_Ob_blockOf_14 v2 s0 s1 t = some out → W p l e R s m args below meth c H locs 0 0 (MQ below (ob_Qi b D cA out) args s 0 0 (ob_A b)) (F0 m 14 ls [.int s0, .int s1]) := by
  have hx := Cx.1.1
  have hb := Cx.1.2.1
  intro t H locs ls v2 s0 s1 hP hS hl h
  unfold B_Ob_blockOf_14 at h
  refine lv_iadd hx hb d_Ob_blockOf_14 ?_
  refine lv_iload_n hx hb d_Ob_blockOf_15 rfl (lv_at hl 0 rfl) ?_
  refine lv_iadd hx hb d_Ob_blockOf_16 ?_
  exact ob_iret Cx hP hS d_Ob_blockOf_17 h
set_option maxHeartbeats 4000000 in
set_option maxRecDepth 100000 in
theorem c_Ob_blockOf {l : Launch} {b : Nat} {D : va_G} {cA : Nat → ClassId} {adK adV : Nat → Nat} (v0 : Int32) (v1 : Int32) (v2 : Int32) {t : ob_S} {out : (Int32 × ob_S)} (h : X_Ob_blockOf v0 v1 v2 t = some out) : Met l y_Ob_blockOf (Cond.code y_Ob_blockOf cb_Ob_blockOf 3 (some .int) :: ob_T) { frames := 0, cells := 0, slots := 0, locals := 0 } (ob_Pre b D cA adK adV [.int v0, .int v1, .int v2] t) (ob_Qi b D cA out) 0 0 (ob_A b) := by
  refine ob_met (by decide) (Nat.le_of_ble_eq_true rfl) ?_
  intro p e R s m args below meth c ls Cx hP hS hl
  have hl : lv_has ls 3 [(0, .int v0), (1, .int v1), (2, .int v2)] := hl
  have hx := Cx.1.1
  have hb := Cx.1.2.1
  unfold X_Ob_blockOf at h
  obtain ⟨H, hH⟩ : ∃ H, H = s.heap := ⟨_, rfl⟩
  obtain ⟨locs, hL⟩ : ∃ locs : List Loc, locs = [] := ⟨_, rfl⟩
  rw [← hH] at hP
  have hS : va_S (ob_A b) s.heap H locs := by rw [hH, hL]; exact hS
  suffices hW : W p l e R s m args below meth c H locs 0 0 (MQ below (ob_Qi b D cA out) args s 0 0 (ob_A b)) (F0 m 0 ls []) by rw [hH, hL] at hW; exact hW
  refine lv_bipush (v := 16) hx hb d_Ob_blockOf_0 (by decide) ?_
  refine lv_iload_n hx hb d_Ob_blockOf_2 rfl (lv_at hl 0 rfl) ?_
  refine lv_imul hx hb d_Ob_blockOf_3 ?_
  refine lv_iload_n hx hb d_Ob_blockOf_4 rfl (lv_at hl 1 rfl) ?_
  refine lv_if_eq (tgt := 13) hx hb d_Ob_blockOf_5 (by decide) (fun hq => ?_) (fun hq => ?_)
  · rw [if_pos hq] at h
    refine lv_iconst (v := 0) hx hb d_Ob_blockOf_13 (by decide) ?_
    exact tB_Ob_blockOf_14 Cx t H locs ls v2 (0 : Int32) ((16 : Int32) * v0) hP hS (lv_sub hl [2] rfl) h
  · rw [if_neg hq] at h
    refine lv_bipush (v := 8) hx hb d_Ob_blockOf_8 (by decide) ?_
    refine lv_goto (tgt := 14) hx hb d_Ob_blockOf_10 (by decide) ?_
    exact tB_Ob_blockOf_14 Cx t H locs ls v2 (8 : Int32) ((16 : Int32) * v0) hP hS (lv_sub hl [2] rfl) h
set_option maxHeartbeats 4000000 in
set_option maxRecDepth 100000 in
theorem tB_By_has_16 {p : Program} {l : Launch} {e : Env} {R : Room} {s : State} {m : MethodId} {args : Array Value} {below : List Frame} {meth : Method} {c : Code} {b : Nat} {D : va_G} {cA : Nat → ClassId} {adK adV : Nat → Nat} {out : (Int32 × ob_S)} (Cx : ob_C p R s m args meth c cb_By_has 2 "ObservedBlocks$Bytes" (some .boolean) b D cA adK adV 0 0) : ∀ (t : ob_S) (H : Heap) (locs : List Loc) (ls : Array Slot), ob_H b D cA t H → va_S (ob_A b) s.heap H locs → lv_has ls 2 [] → B_By_has_16 t = some out → W p l e R s m args below meth c H locs 0 0 (MQ below (ob_Qi b D cA out) args s 0 0 (ob_A b)) (F0 m 16 ls []) := by
  have hx := Cx.1.1
  have hb := Cx.1.2.1
  intro t H locs ls  hP hS hl h
  unfold B_By_has_16 at h
  refine lv_iconst (v := 0) hx hb d_By_has_16 (by decide) ?_
  exact ob_zret Cx hP hS d_By_has_17 h
theorem g_By_has (v0 : Nat) (v1 : Int32) {t : ob_S} {out : (Int32 × ob_S)} (h : X_By_has v0 v1 t = some out) : v0 < ob_n t ∧ ob_k t v0 = 0 := by
  unfold X_By_has ob_this at h
  by_cases q : v0 < ob_n t ∧ ob_k t v0 = 0
  · exact q
  · rw [if_neg q] at h
    cases h
set_option maxHeartbeats 4000000 in
set_option maxRecDepth 100000 in
theorem c_By_has {l : Launch} {b : Nat} {D : va_G} {cA : Nat → ClassId} {adK adV : Nat → Nat} (v0 : Nat) (v1 : Int32) {t : ob_S} {out : (Int32 × ob_S)} (h : X_By_has v0 v1 t = some out) : Met l y_By_has (Cond.code y_By_has cb_By_has 2 (some .boolean) :: ob_T) { frames := 0, cells := 0, slots := 0, locals := 0 } (ob_Pre b D cA adK adV [.ref (b + v0), .int v1] t) (ob_Qi b D cA out) 0 0 (ob_A b) := by
  refine ob_met (by decide) (Nat.le_of_ble_eq_true rfl) ?_
  intro p e R s m args below meth c ls Cx hP hS hl
  have hl : lv_has ls 2 [(0, .ref (b + v0)), (1, .int v1)] := hl
  have hx := Cx.1.1
  have hb := Cx.1.2.1
  have hg := g_By_has v0 v1 h
  unfold X_By_has ob_this at h
  rw [if_pos hg] at h
  obtain ⟨H, hH⟩ : ∃ H, H = s.heap := ⟨_, rfl⟩
  obtain ⟨locs, hL⟩ : ∃ locs : List Loc, locs = [] := ⟨_, rfl⟩
  rw [← hH] at hP
  have hS : va_S (ob_A b) s.heap H locs := by rw [hH, hL]; exact hS
  suffices hW : W p l e R s m args below meth c H locs 0 0 (MQ below (ob_Qi b D cA out) args s 0 0 (ob_A b)) (F0 m 0 ls []) by rw [hH, hL] at hW; exact hW
  refine lv_iload_n hx hb d_By_has_0 rfl (lv_at hl 1 rfl) ?_
  refine lv_if_lt (tgt := 16) hx hb d_By_has_1 (by decide) (fun hq => ?_) (fun hq => ?_)
  · rw [if_pos hq] at h
    exact tB_By_has_16 Cx t H locs ls hP hS (lv_sub hl [] rfl) h
  · rw [if_neg hq] at h
    refine lv_iload_n hx hb d_By_has_4 rfl (lv_at hl 1 rfl) ?_
    refine lv_aload_n hx hb d_By_has_5 rfl (lv_at hl 0 rfl) ?_
    refine ob_getI (k := 1) Cx hP ck_0 rfl w_f_By_15 d_By_has_6 h (fun x6 h => ?_)
    refine lv_icmp_ge (tgt := 16) hx hb d_By_has_9 (by decide) (fun hq => ?_) (fun hq => ?_)
    · rw [if_pos hq] at h
      exact tB_By_has_16 Cx t H locs ls hP hS (lv_sub hl [] rfl) h
    · rw [if_neg hq] at h
      refine lv_iconst (v := 1) hx hb d_By_has_12 (by decide) ?_
      refine lv_goto (tgt := 17) hx hb d_By_has_13 (by decide) ?_
      exact ob_zret Cx hP hS d_By_has_17 h
theorem g_By_addFrom (v0 : Nat) (v1 : Nat) (v2 : Int32) (v3 : Int32) {t : ob_S} {out : ob_S} (h : X_By_addFrom v0 v1 v2 v3 t = some out) : v0 < ob_n t ∧ ob_k t v0 = 0 := by
  unfold X_By_addFrom ob_this at h
  by_cases q : v0 < ob_n t ∧ ob_k t v0 = 0
  · exact q
  · rw [if_neg q] at h
    cases h
set_option maxHeartbeats 4000000 in
set_option maxRecDepth 100000 in
theorem c_By_addFrom {l : Launch} {b : Nat} {D : va_G} {cA : Nat → ClassId} {adK adV : Nat → Nat} (v0 : Nat) (v1 : Nat) (v2 : Int32) (v3 : Int32) {t : ob_S} {out : ob_S} (h : X_By_addFrom v0 v1 v2 v3 t = some out) : Met l y_By_addFrom (Cond.code y_By_addFrom cb_By_addFrom 5 none :: ob_T) { frames := 1, cells := 0, slots := 0, locals := 28 } (ob_Pre b D cA adK adV [.ref (b + v0), .ref (b + v1), .int v2, .int v3] t) (ob_Qv b D cA out) 0 0 (ob_A b) := by
  refine ob_met (by decide) (Nat.le_of_ble_eq_true rfl) ?_
  intro p e R s m args below meth c ls Cx hP hS hl
  have hl : lv_has ls 5 [(0, .ref (b + v0)), (1, .ref (b + v1)), (2, .int v2), (3, .int v3)] := hl
  have hx := Cx.1.1
  have hb := Cx.1.2.1
  have hg := g_By_addFrom v0 v1 v2 v3 h
  unfold X_By_addFrom ob_this at h
  rw [if_pos hg] at h
  obtain ⟨H, hH⟩ : ∃ H, H = s.heap := ⟨_, rfl⟩
  obtain ⟨locs, hL⟩ : ∃ locs : List Loc, locs = [] := ⟨_, rfl⟩
  rw [← hH] at hP
  have hS : va_S (ob_A b) s.heap H locs := by rw [hH, hL]; exact hS
  suffices hW : W p l e R s m args below meth c H locs 0 0 (MQ below (ob_Qv b D cA out) args s 0 0 (ob_A b)) (F0 m 0 ls []) by rw [hH, hL] at hW; exact hW
  refine lv_iload_n hx hb d_By_addFrom_0 rfl (lv_at hl 3 rfl) ?_
  refine lv_aload_n hx hb d_By_addFrom_1 rfl (lv_at hl 1 rfl) ?_
  refine ob_getI (k := 1) Cx hP ck_0 rfl w_f_By_15 d_By_addFrom_2 h (fun x2 h => ?_)
  refine lv_iload_n hx hb d_By_addFrom_5 rfl (lv_at hl 2 rfl) ?_
  refine lv_isub hx hb d_By_addFrom_6 ?_
  refine lv_aload_n hx hb d_By_addFrom_7 rfl (lv_at hl 0 rfl) ?_
  refine ob_getR (k := 0) Cx hP ck_0 rfl w_f_By_9 d_By_addFrom_8 h (fun n8 h => ?_)
  refine ob_alen Cx hP d_By_addFrom_11 h (fun x11 h => ?_)
  refine lv_aload_n hx hb d_By_addFrom_12 rfl (lv_at hl 0 rfl) ?_
  refine ob_getI (k := 1) Cx hP ck_0 rfl w_f_By_15 d_By_addFrom_13 h (fun x13 h => ?_)
  refine lv_isub hx hb d_By_addFrom_16 ?_
  refine ob_min Cx hl.1 (by decide) (Nat.le_of_ble_eq_true rfl) ⟨Nat.zero_le _, Nat.zero_le _⟩ w_m_By_23 d_By_addFrom_17 ?_
  refine ob_min Cx hl.1 (by decide) (Nat.le_of_ble_eq_true rfl) ⟨Nat.zero_le _, Nat.zero_le _⟩ w_m_By_23 d_By_addFrom_20 ?_
  refine lv_istore (lv' := [(4, .int (ob_mn v3 (ob_mn (x2 - v2) (x11 - x13)))), (0, .ref (b + v0)), (1, .ref (b + v1)), (2, .int v2), (3, .int v3)]) hx hb d_By_addFrom_23 hl (by decide) rfl (fun ls hl => ?_)
  refine lv_iload_n hx hb d_By_addFrom_25 rfl (lv_at hl 3 rfl) ?_
  refine lv_if_lt (tgt := 63) hx hb d_By_addFrom_26 (by decide) (fun hq => ?_) (fun hq => ?_)
  · rw [if_pos hq] at h
    exact ob_vret Cx hP hS d_By_addFrom_63 h
  · rw [if_neg hq] at h
    refine lv_iload hx hb d_By_addFrom_29 (lv_at hl 0 rfl) ?_
    refine lv_if_le (tgt := 63) hx hb d_By_addFrom_31 (by decide) (fun hq => ?_) (fun hq => ?_)
    · rw [if_pos hq] at h
      exact ob_vret Cx hP hS d_By_addFrom_63 h
    · rw [if_neg hq] at h
      refine lv_aload_n hx hb d_By_addFrom_34 rfl (lv_at hl 2 rfl) ?_
      refine ob_getR (k := 0) Cx hP ck_0 rfl w_f_By_9 d_By_addFrom_35 h (fun n35 h => ?_)
      refine lv_iload_n hx hb d_By_addFrom_38 rfl (lv_at hl 3 rfl) ?_
      refine lv_aload_n hx hb d_By_addFrom_39 rfl (lv_at hl 1 rfl) ?_
      refine ob_getR (k := 0) Cx hP ck_0 rfl w_f_By_9 d_By_addFrom_40 h (fun n40 h => ?_)
      refine lv_aload_n hx hb d_By_addFrom_43 rfl (lv_at hl 1 rfl) ?_
      refine ob_getI (k := 1) Cx hP ck_0 rfl w_f_By_15 d_By_addFrom_44 h (fun x44 h => ?_)
      refine lv_iload hx hb d_By_addFrom_47 (lv_at hl 0 rfl) ?_
      refine ob_copy Cx hl.1 (by decide) (Nat.le_of_ble_eq_true rfl) hP hS w_m_By_29 d_By_addFrom_49 h (fun t49 H locs h hP hS => ?_)
      refine lv_aload_n hx hb d_By_addFrom_52 rfl (lv_at hl 1 rfl) ?_
      refine lv_dup hx hb d_By_addFrom_53 rfl ?_
      refine ob_getI (k := 1) Cx hP ck_0 rfl w_f_By_15 d_By_addFrom_54 h (fun x54 h => ?_)
      refine lv_iload hx hb d_By_addFrom_57 (lv_at hl 0 rfl) ?_
      refine lv_iadd hx hb d_By_addFrom_59 ?_
      refine ob_putI (k := 1) Cx hP hS ck_0 rfl rfl rfl w_f_By_15 d_By_addFrom_60 h (fun t60 H locs h hP hS => ?_)
      exact ob_vret Cx hP hS d_By_addFrom_63 h
theorem g_Wr_addPayload (v0 : Nat) (v1 : Nat) (v2 : Int32) (v3 : Int32) {t : ob_S} {out : ob_S} (h : X_Wr_addPayload v0 v1 v2 v3 t = some out) : v0 < ob_n t ∧ ob_k t v0 = 4 := by
  unfold X_Wr_addPayload ob_this at h
  by_cases q : v0 < ob_n t ∧ ob_k t v0 = 4
  · exact q
  · rw [if_neg q] at h
    cases h
set_option maxHeartbeats 4000000 in
set_option maxRecDepth 100000 in
theorem c_Wr_addPayload {l : Launch} {b : Nat} {D : va_G} {cA : Nat → ClassId} {adK adV : Nat → Nat} (v0 : Nat) (v1 : Nat) (v2 : Int32) (v3 : Int32) {t : ob_S} {out : ob_S} (h : X_Wr_addPayload v0 v1 v2 v3 t = some out) : Met l y_Wr_addPayload (Cond.code y_Wr_addPayload cb_Wr_addPayload 4 none :: ob_T) { frames := 2, cells := 0, slots := 0, locals := 52 } (ob_Pre b D cA adK adV [.ref (b + v0), .ref (b + v1), .int v2, .int v3] t) (ob_Qv b D cA out) 0 0 (ob_A b) := by
  refine ob_met (by decide) (Nat.le_of_ble_eq_true rfl) ?_
  intro p e R s m args below meth c ls Cx hP hS hl
  have hl : lv_has ls 4 [(0, .ref (b + v0)), (1, .ref (b + v1)), (2, .int v2), (3, .int v3)] := hl
  have hx := Cx.1.1
  have hb := Cx.1.2.1
  have hg := g_Wr_addPayload v0 v1 v2 v3 h
  unfold X_Wr_addPayload ob_this at h
  rw [if_pos hg] at h
  obtain ⟨H, hH⟩ : ∃ H, H = s.heap := ⟨_, rfl⟩
  obtain ⟨locs, hL⟩ : ∃ locs : List Loc, locs = [] := ⟨_, rfl⟩
  rw [← hH] at hP
  have hS : va_S (ob_A b) s.heap H locs := by rw [hH, hL]; exact hS
  suffices hW : W p l e R s m args below meth c H locs 0 0 (MQ below (ob_Qv b D cA out) args s 0 0 (ob_A b)) (F0 m 0 ls []) by rw [hH, hL] at hW; exact hW
  refine lv_iload_n hx hb d_Wr_addPayload_0 rfl (lv_at hl 3 rfl) ?_
  refine lv_if_le (tgt := 32) hx hb d_Wr_addPayload_1 (by decide) (fun hq => ?_) (fun hq => ?_)
  · rw [if_pos hq] at h
    exact ob_vret Cx hP hS d_Wr_addPayload_32 h
  · rw [if_neg hq] at h
    refine lv_aload_n hx hb d_Wr_addPayload_4 rfl (lv_at hl 1 rfl) ?_
    refine lv_iload_n hx hb d_Wr_addPayload_5 rfl (lv_at hl 2 rfl) ?_
    refine ob_cVi (nA := 1) (As := [.int v2]) (rest := []) Cx hl.1 hP hS (fun o ho => c_By_has v1 v2 ho) (fun o ho => g_By_has v1 v2 ho) (by decide) (rfl : ob_cl[0]? = _) mv_By_has w_m_Wr_44 rfl (by decide +kernel) ⟨rfl, rfl⟩ ⟨by decide, by decide⟩ (Nat.le_of_ble_eq_true rfl) rfl d_Wr_addPayload_6 h (fun x6 t6 H locs h hP hS => ?_)
    refine lv_if_eq (tgt := 32) hx hb d_Wr_addPayload_9 (by decide) (fun hq => ?_) (fun hq => ?_)
    · rw [if_pos hq] at h
      exact ob_vret Cx hP hS d_Wr_addPayload_32 h
    · rw [if_neg hq] at h
      refine lv_aload_n hx hb d_Wr_addPayload_12 rfl (lv_at hl 0 rfl) ?_
      refine ob_getR (k := 0) Cx hP ck_4 rfl w_f_Wr_14 d_Wr_addPayload_13 h (fun n13 h => ?_)
      refine lv_sipush (v := 255) hx hb d_Wr_addPayload_16 (by decide) ?_
      refine ob_cVv (nA := 1) (As := [.int (255 : Int32)]) (rest := []) Cx hl.1 hP hS (fun o ho => c_By_add n13 (255 : Int32) ho) (fun o ho => g_By_add n13 (255 : Int32) ho) (by decide) (rfl : ob_cl[0]? = _) mv_By_add w_m_Wr_27 rfl (by decide +kernel) ⟨rfl, rfl⟩ ⟨by decide, by decide⟩ (Nat.le_of_ble_eq_true rfl) rfl d_Wr_addPayload_19 h (fun t19 H locs h hP hS => ?_)
      refine lv_aload_n hx hb d_Wr_addPayload_22 rfl (lv_at hl 0 rfl) ?_
      refine ob_getR (k := 0) Cx hP ck_4 rfl w_f_Wr_14 d_Wr_addPayload_23 h (fun n23 h => ?_)
      refine lv_aload_n hx hb d_Wr_addPayload_26 rfl (lv_at hl 1 rfl) ?_
      refine lv_iload_n hx hb d_Wr_addPayload_27 rfl (lv_at hl 2 rfl) ?_
      refine lv_iload_n hx hb d_Wr_addPayload_28 rfl (lv_at hl 3 rfl) ?_
      refine ob_cVv (nA := 3) (As := [.ref (b + v1), .int v2, .int v3]) (rest := []) Cx hl.1 hP hS (fun o ho => c_By_addFrom n23 v1 v2 v3 ho) (fun o ho => g_By_addFrom n23 v1 v2 v3 ho) (by decide) (rfl : ob_cl[0]? = _) mv_By_addFrom w_m_Wr_48 rfl (by decide +kernel) ⟨rfl, rfl⟩ ⟨by decide, by decide⟩ (Nat.le_of_ble_eq_true rfl) rfl d_Wr_addPayload_29 h (fun t29 H locs h hP hS => ?_)
      exact ob_vret Cx hP hS d_Wr_addPayload_32 h
theorem g_By_become (v0 : Nat) (v1 : Nat) {t : ob_S} {out : ob_S} (h : X_By_become v0 v1 t = some out) : v0 < ob_n t ∧ ob_k t v0 = 0 := by
  unfold X_By_become ob_this at h
  by_cases q : v0 < ob_n t ∧ ob_k t v0 = 0
  · exact q
  · rw [if_neg q] at h
    cases h
set_option maxHeartbeats 4000000 in
set_option maxRecDepth 100000 in
theorem c_By_become {l : Launch} {b : Nat} {D : va_G} {cA : Nat → ClassId} {adK adV : Nat → Nat} (v0 : Nat) (v1 : Nat) {t : ob_S} {out : ob_S} (h : X_By_become v0 v1 t = some out) : Met l y_By_become (Cond.code y_By_become cb_By_become 2 none :: ob_T) { frames := 1, cells := 0, slots := 0, locals := 28 } (ob_Pre b D cA adK adV [.ref (b + v0), .ref (b + v1)] t) (ob_Qv b D cA out) 0 0 (ob_A b) := by
  refine ob_met (by decide) (Nat.le_of_ble_eq_true rfl) ?_
  intro p e R s m args below meth c ls Cx hP hS hl
  have hl : lv_has ls 2 [(0, .ref (b + v0)), (1, .ref (b + v1))] := hl
  have hx := Cx.1.1
  have hb := Cx.1.2.1
  have hg := g_By_become v0 v1 h
  unfold X_By_become ob_this at h
  rw [if_pos hg] at h
  obtain ⟨H, hH⟩ : ∃ H, H = s.heap := ⟨_, rfl⟩
  obtain ⟨locs, hL⟩ : ∃ locs : List Loc, locs = [] := ⟨_, rfl⟩
  rw [← hH] at hP
  have hS : va_S (ob_A b) s.heap H locs := by rw [hH, hL]; exact hS
  suffices hW : W p l e R s m args below meth c H locs 0 0 (MQ below (ob_Qv b D cA out) args s 0 0 (ob_A b)) (F0 m 0 ls []) by rw [hH, hL] at hW; exact hW
  refine lv_aload_n hx hb d_By_become_0 rfl (lv_at hl 0 rfl) ?_
  refine lv_aload_n hx hb d_By_become_1 rfl (lv_at hl 1 rfl) ?_
  refine ob_getI (k := 1) Cx hP ck_0 rfl w_f_By_15 d_By_become_2 h (fun x2 h => ?_)
  refine lv_aload_n hx hb d_By_become_5 rfl (lv_at hl 0 rfl) ?_
  refine ob_getR (k := 0) Cx hP ck_0 rfl w_f_By_9 d_By_become_6 h (fun n6 h => ?_)
  refine ob_alen Cx hP d_By_become_9 h (fun x9 h => ?_)
  refine ob_min Cx hl.1 (by decide) (Nat.le_of_ble_eq_true rfl) ⟨Nat.zero_le _, Nat.zero_le _⟩ w_m_By_23 d_By_become_10 ?_
  refine ob_putI (k := 1) Cx hP hS ck_0 rfl rfl rfl w_f_By_15 d_By_become_13 h (fun t13 H locs h hP hS => ?_)
  refine lv_aload_n hx hb d_By_become_16 rfl (lv_at hl 1 rfl) ?_
  refine ob_getR (k := 0) Cx hP ck_0 rfl w_f_By_9 d_By_become_17 h (fun n17 h => ?_)
  refine lv_iconst (v := 0) hx hb d_By_become_20 (by decide) ?_
  refine lv_aload_n hx hb d_By_become_21 rfl (lv_at hl 0 rfl) ?_
  refine ob_getR (k := 0) Cx hP ck_0 rfl w_f_By_9 d_By_become_22 h (fun n22 h => ?_)
  refine lv_iconst (v := 0) hx hb d_By_become_25 (by decide) ?_
  refine lv_aload_n hx hb d_By_become_26 rfl (lv_at hl 0 rfl) ?_
  refine ob_getI (k := 1) Cx hP ck_0 rfl w_f_By_15 d_By_become_27 h (fun x27 h => ?_)
  refine ob_copy Cx hl.1 (by decide) (Nat.le_of_ble_eq_true rfl) hP hS w_m_By_29 d_By_become_30 h (fun t30 H locs h hP hS => ?_)
  exact ob_vret Cx hP hS d_By_become_33 h
theorem g_Pe_start (v0 : Nat) (v1 : Int32) (v2 : Nat) {t : ob_S} {out : ob_S} (h : X_Pe_start v0 v1 v2 t = some out) : v0 < ob_n t ∧ ob_k t v0 = 3 := by
  unfold X_Pe_start ob_this at h
  by_cases q : v0 < ob_n t ∧ ob_k t v0 = 3
  · exact q
  · rw [if_neg q] at h
    cases h
set_option maxHeartbeats 4000000 in
set_option maxRecDepth 100000 in
theorem c_Pe_start {l : Launch} {b : Nat} {D : va_G} {cA : Nat → ClassId} {adK adV : Nat → Nat} (v0 : Nat) (v1 : Int32) (v2 : Nat) {t : ob_S} {out : ob_S} (h : X_Pe_start v0 v1 v2 t = some out) : Met l y_Pe_start (Cond.code y_Pe_start cb_Pe_start 3 none :: ob_T) { frames := 2, cells := 0, slots := 0, locals := 49 } (ob_Pre b D cA adK adV [.ref (b + v0), .int v1, .ref (b + v2)] t) (ob_Qv b D cA out) 0 0 (ob_A b) := by
  refine ob_met (by decide) (Nat.le_of_ble_eq_true rfl) ?_
  intro p e R s m args below meth c ls Cx hP hS hl
  have hl : lv_has ls 3 [(0, .ref (b + v0)), (1, .int v1), (2, .ref (b + v2))] := hl
  have hx := Cx.1.1
  have hb := Cx.1.2.1
  have hg := g_Pe_start v0 v1 v2 h
  unfold X_Pe_start ob_this at h
  rw [if_pos hg] at h
  obtain ⟨H, hH⟩ : ∃ H, H = s.heap := ⟨_, rfl⟩
  obtain ⟨locs, hL⟩ : ∃ locs : List Loc, locs = [] := ⟨_, rfl⟩
  rw [← hH] at hP
  have hS : va_S (ob_A b) s.heap H locs := by rw [hH, hL]; exact hS
  suffices hW : W p l e R s m args below meth c H locs 0 0 (MQ below (ob_Qv b D cA out) args s 0 0 (ob_A b)) (F0 m 0 ls []) by rw [hH, hL] at hW; exact hW
  refine lv_aload_n hx hb d_Pe_start_0 rfl (lv_at hl 0 rfl) ?_
  refine ob_getR (k := 0) Cx hP ck_3 rfl w_f_Pe_14 d_Pe_start_1 h (fun n1 h => ?_)
  refine lv_aload_n hx hb d_Pe_start_4 rfl (lv_at hl 2 rfl) ?_
  refine ob_cVv (nA := 1) (As := [.ref (b + v2)]) (rest := []) Cx hl.1 hP hS (fun o ho => c_By_become n1 v2 ho) (fun o ho => g_By_become n1 v2 ho) (by decide) (rfl : ob_cl[0]? = _) mv_By_become w_m_Pe_24 rfl (by decide +kernel) ⟨rfl, rfl⟩ ⟨by decide, by decide⟩ (Nat.le_of_ble_eq_true rfl) rfl d_Pe_start_5 h (fun t5 H locs h hP hS => ?_)
  refine lv_aload_n hx hb d_Pe_start_8 rfl (lv_at hl 0 rfl) ?_
  refine lv_iload_n hx hb d_Pe_start_9 rfl (lv_at hl 1 rfl) ?_
  refine ob_putI (k := 1) Cx hP hS ck_3 rfl rfl rfl w_f_Pe_28 d_Pe_start_10 h (fun t10 H locs h hP hS => ?_)
  refine lv_aload_n hx hb d_Pe_start_13 rfl (lv_at hl 0 rfl) ?_
  refine lv_iconst (v := 1) hx hb d_Pe_start_14 (by decide) ?_
  refine ob_putZ (k := 2) Cx hP hS ck_3 rfl rfl rfl w_f_Pe_20 d_Pe_start_15 h (fun t15 H locs h hP hS => ?_)
  refine lv_aload_n hx hb d_Pe_start_18 rfl (lv_at hl 0 rfl) ?_
  refine lv_iconst (v := 4) hx hb d_Pe_start_19 (by decide) ?_
  refine ob_putI (k := 3) Cx hP hS ck_3 rfl rfl rfl w_f_Pe_32 d_Pe_start_20 h (fun t20 H locs h hP hS => ?_)
  refine lv_aload_n hx hb d_Pe_start_23 rfl (lv_at hl 0 rfl) ?_
  refine lv_iconst (v := 4) hx hb d_Pe_start_24 (by decide) ?_
  refine ob_putI (k := 4) Cx hP hS ck_3 rfl rfl rfl w_f_Pe_35 d_Pe_start_25 h (fun t25 H locs h hP hS => ?_)
  refine lv_aload_n hx hb d_Pe_start_28 rfl (lv_at hl 0 rfl) ?_
  refine lv_iconst (v := 0) hx hb d_Pe_start_29 (by decide) ?_
  refine ob_putI (k := 5) Cx hP hS ck_3 rfl rfl rfl w_f_Pe_38 d_Pe_start_30 h (fun t30 H locs h hP hS => ?_)
  exact ob_vret Cx hP hS d_Pe_start_33 h

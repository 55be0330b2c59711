set_option maxHeartbeats 4000000 in
set_option maxRecDepth 100000 in
theorem tB_Pe_isFor_19 {p : Program} {l : Launch} {e : Env} {R : Room} {s : State} {m : MethodId} {args : Array Value} {below : List Frame} {meth : Method} {c : Code} {b : Nat} {D : va_G} {cA : Nat → ClassId} {adK adV : Nat → Nat} {out : (Int32 × ob_S)} (Cx : ob_C p R s m args meth c cb_Pe_isFor 2 "ObservedBlocks$Pending" (some .boolean) b D cA adK adV 0 0) : ∀ (t : ob_S) (H : Heap) (locs : List Loc) (ls : Array Slot), ob_H b D cA t H → va_S (ob_A b) s.heap H locs → lv_has ls 2 [] → B_Pe_isFor_19 t = some out → W p l e R s m args below meth c H locs 0 0 (MQ below (ob_Qi b D cA out) args s 0 0 (ob_A b)) (F0 m 19 ls []) := by
  have hx := Cx.1.1
  have hb := Cx.1.2.1
  intro t H locs ls  hP hS hl h
  unfold B_Pe_isFor_19 at h
  refine lv_iconst (v := 0) hx hb d_Pe_isFor_19 (by decide) ?_
  exact ob_zret Cx hP hS d_Pe_isFor_20 h
theorem g_Pe_isFor (v0 : Nat) (v1 : Int32) {t : ob_S} {out : (Int32 × ob_S)} (h : X_Pe_isFor v0 v1 t = some out) : v0 < ob_n t ∧ ob_k t v0 = 3 := by
  unfold X_Pe_isFor ob_this at h
  by_cases q : v0 < ob_n t ∧ ob_k t v0 = 3
  · exact q
  · rw [if_neg q] at h
    cases h
set_option maxHeartbeats 4000000 in
set_option maxRecDepth 100000 in
theorem c_Pe_isFor {l : Launch} {b : Nat} {D : va_G} {cA : Nat → ClassId} {adK adV : Nat → Nat} (v0 : Nat) (v1 : Int32) {t : ob_S} {out : (Int32 × ob_S)} (h : X_Pe_isFor v0 v1 t = some out) : Met l y_Pe_isFor (Cond.code y_Pe_isFor cb_Pe_isFor 2 (some .boolean) :: ob_T) { frames := 0, cells := 0, slots := 0, locals := 0 } (ob_Pre b D cA adK adV [.ref (b + v0), .int v1] t) (ob_Qi b D cA out) 0 0 (ob_A b) := by
  refine ob_met (by decide) (Nat.le_of_ble_eq_true rfl) ?_
  intro p e R s m args below meth c ls Cx hP hS hl
  have hl : lv_has ls 2 [(0, .ref (b + v0)), (1, .int v1)] := hl
  have hx := Cx.1.1
  have hb := Cx.1.2.1
  have hg := g_Pe_isFor v0 v1 h
  unfold X_Pe_isFor ob_this at h
  rw [if_pos hg] at h
  obtain ⟨H, hH⟩ : ∃ H, H = s.heap := ⟨_, rfl⟩
  obtain ⟨locs, hL⟩ : ∃ locs : List Loc, locs = [] := ⟨_, rfl⟩
  rw [← hH] at hP
  have hS : va_S (ob_A b) s.heap H locs := by rw [hH, hL]; exact hS
  suffices hW : W p l e R s m args below meth c H locs 0 0 (MQ below (ob_Qi b D cA out) args s 0 0 (ob_A b)) (F0 m 0 ls []) by rw [hH, hL] at hW; exact hW
  refine lv_aload_n hx hb d_Pe_isFor_0 rfl (lv_at hl 0 rfl) ?_
  refine ob_getI (k := 2) Cx hP ck_3 rfl w_f_Pe_20 d_Pe_isFor_1 h (fun x1 h => ?_)
  refine lv_if_eq (tgt := 19) hx hb d_Pe_isFor_4 (by decide) (fun hq => ?_) (fun hq => ?_)
  · rw [if_pos hq] at h
    exact tB_Pe_isFor_19 Cx t H locs ls hP hS (lv_sub hl [] rfl) h
  · rw [if_neg hq] at h
    refine lv_aload_n hx hb d_Pe_isFor_7 rfl (lv_at hl 0 rfl) ?_
    refine ob_getI (k := 1) Cx hP ck_3 rfl w_f_Pe_28 d_Pe_isFor_8 h (fun x8 h => ?_)
    refine lv_iload_n hx hb d_Pe_isFor_11 rfl (lv_at hl 1 rfl) ?_
    refine lv_icmp_ne (tgt := 19) hx hb d_Pe_isFor_12 (by decide) (fun hq => ?_) (fun hq => ?_)
    · rw [if_pos hq] at h
      exact tB_Pe_isFor_19 Cx t H locs ls hP hS (lv_sub hl [] rfl) h
    · rw [if_neg (fun z => z hq)] at h
      refine lv_iconst (v := 1) hx hb d_Pe_isFor_15 (by decide) ?_
      refine lv_goto (tgt := 20) hx hb d_Pe_isFor_16 (by decide) ?_
      exact ob_zret Cx hP hS d_Pe_isFor_20 h
set_option maxHeartbeats 4000000 in
set_option maxRecDepth 100000 in
theorem tB_Sl_isAskedFor_37 {p : Program} {l : Launch} {e : Env} {R : Room} {s : State} {m : MethodId} {args : Array Value} {below : List Frame} {meth : Method} {c : Code} {b : Nat} {D : va_G} {cA : Nat → ClassId} {adK adV : Nat → Nat} {out : (Int32 × ob_S)} (Cx : ob_C p R s m args meth c cb_Sl_isAskedFor 2 "ObservedBlocks$Slot" (some .boolean) b D cA adK adV 1 21) : ∀ (t : ob_S) (H : Heap) (locs : List Loc) (ls : Array Slot), ob_H b D cA t H → va_S (ob_A b) s.heap H locs → lv_has ls 2 [] → B_Sl_isAskedFor_37 t = some out → W p l e R s m args below meth c H locs 0 0 (MQ below (ob_Qi b D cA out) args s 0 0 (ob_A b)) (F0 m 37 ls []) := by
  have hx := Cx.1.1
  have hb := Cx.1.2.1
  intro t H locs ls  hP hS hl h
  unfold B_Sl_isAskedFor_37 at h
  refine lv_iconst (v := 0) hx hb d_Sl_isAskedFor_37 (by decide) ?_
  exact ob_zret Cx hP hS d_Sl_isAskedFor_38 h
theorem g_Sl_isAskedFor (v0 : Nat) (v1 : Nat) {t : ob_S} {out : (Int32 × ob_S)} (h : X_Sl_isAskedFor v0 v1 t = some out) : v0 < ob_n t ∧ ob_k t v0 = 6 := by
  unfold X_Sl_isAskedFor ob_this at h
  by_cases q : v0 < ob_n t ∧ ob_k t v0 = 6
  · exact q
  · rw [if_neg q] at h
    cases h
set_option maxHeartbeats 4000000 in
set_option maxRecDepth 100000 in
theorem c_Sl_isAskedFor {l : Launch} {b : Nat} {D : va_G} {cA : Nat → ClassId} {adK adV : Nat → Nat} (v0 : Nat) (v1 : Nat) {t : ob_S} {out : (Int32 × ob_S)} (h : X_Sl_isAskedFor v0 v1 t = some out) : Met l y_Sl_isAskedFor (Cond.code y_Sl_isAskedFor cb_Sl_isAskedFor 2 (some .boolean) :: ob_T) { frames := 1, cells := 0, slots := 0, locals := 21 } (ob_Pre b D cA adK adV [.ref (b + v0), .ref (b + v1)] t) (ob_Qi b D cA out) 0 0 (ob_A b) := by
  refine ob_met (by decide) (Nat.le_of_ble_eq_true rfl) ?_
  intro p e R s m args below meth c ls Cx hP hS hl
  have hl : lv_has ls 2 [(0, .ref (b + v0)), (1, .ref (b + v1))] := hl
  have hx := Cx.1.1
  have hb := Cx.1.2.1
  have hg := g_Sl_isAskedFor v0 v1 h
  unfold X_Sl_isAskedFor ob_this at h
  rw [if_pos hg] at h
  obtain ⟨H, hH⟩ : ∃ H, H = s.heap := ⟨_, rfl⟩
  obtain ⟨locs, hL⟩ : ∃ locs : List Loc, locs = [] := ⟨_, rfl⟩
  rw [← hH] at hP
  have hS : va_S (ob_A b) s.heap H locs := by rw [hH, hL]; exact hS
  suffices hW : W p l e R s m args below meth c H locs 0 0 (MQ below (ob_Qi b D cA out) args s 0 0 (ob_A b)) (F0 m 0 ls []) by rw [hH, hL] at hW; exact hW
  refine lv_aload_n hx hb d_Sl_isAskedFor_0 rfl (lv_at hl 0 rfl) ?_
  refine ob_getI (k := 2) Cx hP ck_6 rfl w_f_Sl_34 d_Sl_isAskedFor_1 h (fun x1 h => ?_)
  refine lv_iconst (v := 1) hx hb d_Sl_isAskedFor_4 (by decide) ?_
  refine lv_icmp_ne (tgt := 37) hx hb d_Sl_isAskedFor_5 (by decide) (fun hq => ?_) (fun hq => ?_)
  · rw [if_pos hq] at h
    exact tB_Sl_isAskedFor_37 Cx t H locs ls hP hS (lv_sub hl [] rfl) h
  · rw [if_neg (fun z => z hq)] at h
    refine lv_aload_n hx hb d_Sl_isAskedFor_8 rfl (lv_at hl 0 rfl) ?_
    refine ob_getR (k := 1) Cx hP ck_6 rfl w_f_Sl_23 d_Sl_isAskedFor_9 h (fun n9 h => ?_)
    refine lv_aload_n hx hb d_Sl_isAskedFor_12 rfl (lv_at hl 1 rfl) ?_
    refine ob_getI (k := 2) Cx hP ck_8 rfl w_f_Sl_71 d_Sl_isAskedFor_13 h (fun x13 h => ?_)
    refine ob_cVi (nA := 1) (As := [.int x13]) (rest := []) Cx hl.1 hP hS (fun o ho => c_Pe_isFor n9 x13 ho) (fun o ho => g_Pe_isFor n9 x13 ho) (by decide) (rfl : ob_cl[3]? = _) mv_Pe_isFor w_m_Sl_76 rfl (by decide +kernel) ⟨rfl, rfl⟩ ⟨by decide, by decide⟩ (Nat.le_of_ble_eq_true rfl) rfl d_Sl_isAskedFor_16 h (fun x16 t16 H locs h hP hS => ?_)
    refine lv_if_eq (tgt := 37) hx hb d_Sl_isAskedFor_19 (by decide) (fun hq => ?_) (fun hq => ?_)
    · rw [if_pos hq] at h
      exact tB_Sl_isAskedFor_37 Cx t16 H locs ls hP hS (lv_sub hl [] rfl) h
    · rw [if_neg hq] at h
      refine lv_aload_n hx hb d_Sl_isAskedFor_22 rfl (lv_at hl 0 rfl) ?_
      refine ob_getI (k := 3) Cx hP ck_6 rfl w_f_Sl_37 d_Sl_isAskedFor_23 h (fun x23 h => ?_)
      refine lv_aload_n hx hb d_Sl_isAskedFor_26 rfl (lv_at hl 1 rfl) ?_
      refine ob_getI (k := 3) Cx hP ck_8 rfl w_f_Sl_80 d_Sl_isAskedFor_27 h (fun x27 h => ?_)
      refine lv_icmp_ne (tgt := 37) hx hb d_Sl_isAskedFor_30 (by decide) (fun hq => ?_) (fun hq => ?_)
      · rw [if_pos hq] at h
        exact tB_Sl_isAskedFor_37 Cx t16 H locs ls hP hS (lv_sub hl [] rfl) h
      · rw [if_neg (fun z => z hq)] at h
        refine lv_iconst (v := 1) hx hb d_Sl_isAskedFor_33 (by decide) ?_
        refine lv_goto (tgt := 38) hx hb d_Sl_isAskedFor_34 (by decide) ?_
        exact ob_zret Cx hP hS d_Sl_isAskedFor_38 h
set_option maxHeartbeats 4000000 in
set_option maxRecDepth 100000 in
theorem c_Ob_numOf {l : Launch} {b : Nat} {D : va_G} {cA : Nat → ClassId} {adK adV : Nat → Nat} (v0 : Int32) {t : ob_S} {out : (Int32 × ob_S)} (h : X_Ob_numOf v0 t = some out) : Met l y_Ob_numOf (Cond.code y_Ob_numOf cb_Ob_numOf 1 (some .int) :: ob_T) { frames := 0, cells := 0, slots := 0, locals := 0 } (ob_Pre b D cA adK adV [.int v0] t) (ob_Qi b D cA out) 0 0 (ob_A b) := by
  refine ob_met (by decide) (Nat.le_of_ble_eq_true rfl) ?_
  intro p e R s m args below meth c ls Cx hP hS hl
  have hl : lv_has ls 1 [(0, .int v0)] := hl
  have hx := Cx.1.1
  have hb := Cx.1.2.1
  unfold X_Ob_numOf at h
  obtain ⟨H, hH⟩ : ∃ H, H = s.heap := ⟨_, rfl⟩
  obtain ⟨locs, hL⟩ : ∃ locs : List Loc, locs = [] := ⟨_, rfl⟩
  rw [← hH] at hP
  have hS : va_S (ob_A b) s.heap H locs := by rw [hH, hL]; exact hS
  suffices hW : W p l e R s m args below meth c H locs 0 0 (MQ below (ob_Qi b D cA out) args s 0 0 (ob_A b)) (F0 m 0 ls []) by rw [hH, hL] at hW; exact hW
  refine lv_iload_n hx hb d_Ob_numOf_0 rfl (lv_at hl 0 rfl) ?_
  refine lv_iconst (v := 4) hx hb d_Ob_numOf_1 (by decide) ?_
  refine lv_ishr hx hb d_Ob_numOf_2 ?_
  exact ob_iret Cx hP hS d_Ob_numOf_3 h
set_option maxHeartbeats 4000000 in
set_option maxRecDepth 100000 in
theorem tB_Sl_isBlockDue_65 {p : Program} {l : Launch} {e : Env} {R : Room} {s : State} {m : MethodId} {args : Array Value} {below : List Frame} {meth : Method} {c : Code} {b : Nat} {D : va_G} {cA : Nat → ClassId} {adK adV : Nat → Nat} {out : (Int32 × ob_S)} (Cx : ob_C p R s m args meth c cb_Sl_isBlockDue 2 "ObservedBlocks$Slot" (some .boolean) b D cA adK adV 1 20) : ∀ (t : ob_S) (H : Heap) (locs : List Loc) (ls : Array Slot), ob_H b D cA t H → va_S (ob_A b) s.heap H locs → lv_has ls 2 [] → B_Sl_isBlockDue_65 t = some out → W p l e R s m args below meth c H locs 0 0 (MQ below (ob_Qi b D cA out) args s 0 0 (ob_A b)) (F0 m 65 ls []) := by
  have hx := Cx.1.1
  have hb := Cx.1.2.1
  intro t H locs ls  hP hS hl h
  unfold B_Sl_isBlockDue_65 at h
  refine lv_iconst (v := 0) hx hb d_Sl_isBlockDue_65 (by decide) ?_
  exact ob_zret Cx hP hS d_Sl_isBlockDue_66 h
theorem g_Sl_isBlockDue (v0 : Nat) (v1 : Nat) {t : ob_S} {out : (Int32 × ob_S)} (h : X_Sl_isBlockDue v0 v1 t = some out) : v0 < ob_n t ∧ ob_k t v0 = 6 := by
  unfold X_Sl_isBlockDue ob_this at h
  by_cases q : v0 < ob_n t ∧ ob_k t v0 = 6
  · exact q
  · rw [if_neg q] at h
    cases h
set_option maxHeartbeats 4000000 in
set_option maxRecDepth 100000 in
theorem c_Sl_isBlockDue {l : Launch} {b : Nat} {D : va_G} {cA : Nat → ClassId} {adK adV : Nat → Nat} (v0 : Nat) (v1 : Nat) {t : ob_S} {out : (Int32 × ob_S)} (h : X_Sl_isBlockDue v0 v1 t = some out) : Met l y_Sl_isBlockDue (Cond.code y_Sl_isBlockDue cb_Sl_isBlockDue 2 (some .boolean) :: ob_T) { frames := 1, cells := 0, slots := 0, locals := 20 } (ob_Pre b D cA adK adV [.ref (b + v0), .ref (b + v1)] t) (ob_Qi b D cA out) 0 0 (ob_A b) := by
  refine ob_met (by decide) (Nat.le_of_ble_eq_true rfl) ?_
  intro p e R s m args below meth c ls Cx hP hS hl
  have hl : lv_has ls 2 [(0, .ref (b + v0)), (1, .ref (b + v1))] := hl
  have hx := Cx.1.1
  have hb := Cx.1.2.1
  have hg := g_Sl_isBlockDue v0 v1 h
  unfold X_Sl_isBlockDue ob_this at h
  rw [if_pos hg] at h
  obtain ⟨H, hH⟩ : ∃ H, H = s.heap := ⟨_, rfl⟩
  obtain ⟨locs, hL⟩ : ∃ locs : List Loc, locs = [] := ⟨_, rfl⟩
  rw [← hH] at hP
  have hS : va_S (ob_A b) s.heap H locs := by rw [hH, hL]; exact hS
  suffices hW : W p l e R s m args below meth c H locs 0 0 (MQ below (ob_Qi b D cA out) args s 0 0 (ob_A b)) (F0 m 0 ls []) by rw [hH, hL] at hW; exact hW
  refine lv_aload_n hx hb d_Sl_isBlockDue_0 rfl (lv_at hl 1 rfl) ?_
  refine ob_getI (k := 5) Cx hP ck_8 rfl w_f_Sl_102 d_Sl_isBlockDue_1 h (fun x1 h => ?_)
  refine lv_iconst (v := -1) hx hb d_Sl_isBlockDue_4 (by decide) ?_
  refine lv_icmp_eq (tgt := 65) hx hb d_Sl_isBlockDue_5 (by decide) (fun hq => ?_) (fun hq => ?_)
  · rw [if_pos hq] at h
    exact tB_Sl_isBlockDue_65 Cx t H locs ls hP hS (lv_sub hl [] rfl) h
  · rw [if_neg hq] at h
    refine lv_aload_n hx hb d_Sl_isBlockDue_8 rfl (lv_at hl 1 rfl) ?_
    refine ob_getI (k := 5) Cx hP ck_8 rfl w_f_Sl_102 d_Sl_isBlockDue_9 h (fun x9 h => ?_)
    refine ob_cNi (nA := 1) (As := [.int x9]) (rest := []) Cx hl.1 hP hS (fun o ho => c_Ob_numOf x9 ho) ms_Ob_numOf w_n_Sl_105 rfl (by decide +kernel) ⟨rfl, rfl⟩ ⟨by decide, by decide⟩ (Nat.le_of_ble_eq_true rfl) rfl d_Sl_isBlockDue_12 h (fun x12 t12 H locs h hP hS => ?_)
    refine lv_aload_n hx hb d_Sl_isBlockDue_15 rfl (lv_at hl 0 rfl) ?_
    refine ob_getI (k := 6) Cx hP ck_6 rfl w_f_Sl_46 d_Sl_isBlockDue_16 h (fun x16 h => ?_)
    refine lv_icmp_ne (tgt := 65) hx hb d_Sl_isBlockDue_19 (by decide) (fun hq => ?_) (fun hq => ?_)
    · rw [if_pos hq] at h
      exact tB_Sl_isBlockDue_65 Cx t12 H locs ls hP hS (lv_sub hl [] rfl) h
    · rw [if_neg (fun z => z hq)] at h
      refine lv_aload_n hx hb d_Sl_isBlockDue_22 rfl (lv_at hl 1 rfl) ?_
      refine ob_getI (k := 5) Cx hP ck_8 rfl w_f_Sl_102 d_Sl_isBlockDue_23 h (fun x23 h => ?_)
      refine ob_cNi (nA := 1) (As := [.int x23]) (rest := []) Cx hl.1 hP hS (fun o ho => c_Ob_szxOf x23 ho) ms_Ob_szxOf w_n_Sl_108 rfl (by decide +kernel) ⟨rfl, rfl⟩ ⟨by decide, by decide⟩ (Nat.le_of_ble_eq_true rfl) rfl d_Sl_isBlockDue_26 h (fun x26 t26 H locs h hP hS => ?_)
      refine lv_aload_n hx hb d_Sl_isBlockDue_29 rfl (lv_at hl 0 rfl) ?_
      refine ob_getI (k := 5) Cx hP ck_6 rfl w_f_Sl_43 d_Sl_isBlockDue_30 h (fun x30 h => ?_)
      refine lv_icmp_ne (tgt := 65) hx hb d_Sl_isBlockDue_33 (by decide) (fun hq => ?_) (fun hq => ?_)
      · rw [if_pos hq] at h
        exact tB_Sl_isBlockDue_65 Cx t26 H locs ls hP hS (lv_sub hl [] rfl) h
      · rw [if_neg (fun z => z hq)] at h
        refine lv_aload_n hx hb d_Sl_isBlockDue_36 rfl (lv_at hl 0 rfl) ?_
        refine ob_getI (k := 6) Cx hP ck_6 rfl w_f_Sl_46 d_Sl_isBlockDue_37 h (fun x37 h => ?_)
        refine lv_aload_n hx hb d_Sl_isBlockDue_40 rfl (lv_at hl 0 rfl) ?_
        refine ob_getI (k := 5) Cx hP ck_6 rfl w_f_Sl_43 d_Sl_isBlockDue_41 h (fun x41 h => ?_)
        refine ob_cNi (nA := 1) (As := [.int x41]) (rest := [.int x37]) Cx hl.1 hP hS (fun o ho => c_Ob_sizeOf x41 ho) ms_Ob_sizeOf w_n_Sl_84 rfl (by decide +kernel) ⟨rfl, rfl⟩ ⟨by decide, by decide⟩ (Nat.le_of_ble_eq_true rfl) rfl d_Sl_isBlockDue_44 h (fun x44 t44 H locs h hP hS => ?_)
        refine lv_imul hx hb d_Sl_isBlockDue_47 ?_
        refine lv_aload_n hx hb d_Sl_isBlockDue_48 rfl (lv_at hl 1 rfl) ?_
        refine ob_getR (k := 10) Cx hP ck_8 rfl w_f_Sl_111 d_Sl_isBlockDue_49 h (fun n49 h => ?_)
        refine ob_getI (k := 1) Cx hP ck_0 rfl w_f_Sl_81 d_Sl_isBlockDue_52 h (fun x52 h => ?_)
        refine lv_iadd hx hb d_Sl_isBlockDue_55 ?_
        refine lv_bipush (v := 64) hx hb d_Sl_isBlockDue_56 (by decide) ?_
        refine lv_icmp_gt (tgt := 65) hx hb d_Sl_isBlockDue_58 (by decide) (fun hq => ?_) (fun hq => ?_)
        · rw [if_pos hq] at h
          exact tB_Sl_isBlockDue_65 Cx t44 H locs ls hP hS (lv_sub hl [] rfl) h
        · rw [if_neg hq] at h
          refine lv_iconst (v := 1) hx hb d_Sl_isBlockDue_61 (by decide) ?_
          refine lv_goto (tgt := 66) hx hb d_Sl_isBlockDue_62 (by decide) ?_
          exact ob_zret Cx hP hS d_Sl_isBlockDue_66 h
theorem g_By_cutTo (v0 : Nat) (v1 : Int32) {t : ob_S} {out : ob_S} (h : X_By_cutTo v0 v1 t = some out) : v0 < ob_n t ∧ ob_k t v0 = 0 := by
  unfold X_By_cutTo ob_this at h
  by_cases q : v0 < ob_n t ∧ ob_k t v0 = 0
  · exact q
  · rw [if_neg q] at h
    cases h
set_option maxHeartbeats 4000000 in
set_option maxRecDepth 100000 in
theorem c_By_cutTo {l : Launch} {b : Nat} {D : va_G} {cA : Nat → ClassId} {adK adV : Nat → Nat} (v0 : Nat) (v1 : Int32) {t : ob_S} {out : ob_S} (h : X_By_cutTo v0 v1 t = some out) : Met l y_By_cutTo (Cond.code y_By_cutTo cb_By_cutTo 2 none :: ob_T) { frames := 1, cells := 0, slots := 0, locals := 21 } (ob_Pre b D cA adK adV [.ref (b + v0), .int v1] t) (ob_Qv b D cA out) 0 0 (ob_A b) := by
  refine ob_met (by decide) (Nat.le_of_ble_eq_true rfl) ?_
  intro p e R s m args below meth c ls Cx hP hS hl
  have hl : lv_has ls 2 [(0, .ref (b + v0)), (1, .int v1)] := hl
  have hx := Cx.1.1
  have hb := Cx.1.2.1
  have hg := g_By_cutTo v0 v1 h
  unfold X_By_cutTo ob_this at h
  rw [if_pos hg] at h
  obtain ⟨H, hH⟩ : ∃ H, H = s.heap := ⟨_, rfl⟩
  obtain ⟨locs, hL⟩ : ∃ locs : List Loc, locs = [] := ⟨_, rfl⟩
  rw [← hH] at hP
  have hS : va_S (ob_A b) s.heap H locs := by rw [hH, hL]; exact hS
  suffices hW : W p l e R s m args below meth c H locs 0 0 (MQ below (ob_Qv b D cA out) args s 0 0 (ob_A b)) (F0 m 0 ls []) by rw [hH, hL] at hW; exact hW
  refine lv_aload_n hx hb d_By_cutTo_0 rfl (lv_at hl 0 rfl) ?_
  refine lv_aload_n hx hb d_By_cutTo_1 rfl (lv_at hl 0 rfl) ?_
  refine ob_getI (k := 1) Cx hP ck_0 rfl w_f_By_15 d_By_cutTo_2 h (fun x2 h => ?_)
  refine lv_iload_n hx hb d_By_cutTo_5 rfl (lv_at hl 1 rfl) ?_
  refine ob_min Cx hl.1 (by decide) (Nat.le_of_ble_eq_true rfl) ⟨Nat.zero_le _, Nat.zero_le _⟩ w_m_By_23 d_By_cutTo_6 ?_
  refine ob_putI (k := 1) Cx hP hS ck_0 rfl rfl rfl w_f_By_15 d_By_cutTo_9 h (fun t9 H locs h hP hS => ?_)
  exact ob_vret Cx hP hS d_By_cutTo_12 h
set_option maxHeartbeats 4000000 in
set_option maxRecDepth 100000 in
theorem c_Ob_hasMore {l : Launch} {b : Nat} {D : va_G} {cA : Nat → ClassId} {adK adV : Nat → Nat} (v0 : Int32) {t : ob_S} {out : (Int32 × ob_S)} (h : X_Ob_hasMore v0 t = some out) : Met l y_Ob_hasMore (Cond.code y_Ob_hasMore cb_Ob_hasMore 1 (some .boolean) :: ob_T) { frames := 0, cells := 0, slots := 0, locals := 0 } (ob_Pre b D cA adK adV [.int v0] t) (ob_Qi b D cA out) 0 0 (ob_A b) := by
  refine ob_met (by decide) (Nat.le_of_ble_eq_true rfl) ?_
  intro p e R s m args below meth c ls Cx hP hS hl
  have hl : lv_has ls 1 [(0, .int v0)] := hl
  have hx := Cx.1.1
  have hb := Cx.1.2.1
  unfold X_Ob_hasMore at h
  obtain ⟨H, hH⟩ : ∃ H, H = s.heap := ⟨_, rfl⟩
  obtain ⟨locs, hL⟩ : ∃ locs : List Loc, locs = [] := ⟨_, rfl⟩
  rw [← hH] at hP
  have hS : va_S (ob_A b) s.heap H locs := by rw [hH, hL]; exact hS
  suffices hW : W p l e R s m args below meth c H locs 0 0 (MQ below (ob_Qi b D cA out) args s 0 0 (ob_A b)) (F0 m 0 ls []) by rw [hH, hL] at hW; exact hW
  refine lv_iload_n hx hb d_Ob_hasMore_0 rfl (lv_at hl 0 rfl) ?_
  refine lv_bipush (v := 8) hx hb d_Ob_hasMore_1 (by decide) ?_
  refine lv_iand hx hb d_Ob_hasMore_3 ?_
  refine lv_if_eq (tgt := 11) hx hb d_Ob_hasMore_4 (by decide) (fun hq => ?_) (fun hq => ?_)
  · rw [if_pos hq] at h
    refine lv_iconst (v := 0) hx hb d_Ob_hasMore_11 (by decide) ?_
    exact ob_zret Cx hP hS d_Ob_hasMore_12 h
  · rw [if_neg hq] at h
    refine lv_iconst (v := 1) hx hb d_Ob_hasMore_7 (by decide) ?_
    refine lv_goto (tgt := 12) hx hb d_Ob_hasMore_8 (by decide) ?_
    exact ob_zret Cx hP hS d_Ob_hasMore_12 h
theorem g_Sl_goOn (v0 : Nat) (v1 : Nat) {t : ob_S} {out : (Int32 × ob_S)} (h : X_Sl_goOn v0 v1 t = some out) : v0 < ob_n t ∧ ob_k t v0 = 6 := by
  unfold X_Sl_goOn ob_this at h
  by_cases q : v0 < ob_n t ∧ ob_k t v0 = 6
  · exact q
  · rw [if_neg q] at h
    cases h
set_option maxHeartbeats 4000000 in
set_option maxRecDepth 100000 in
theorem c_Sl_goOn {l : Launch} {b : Nat} {D : va_G} {cA : Nat → ClassId} {adK adV : Nat → Nat} (v0 : Nat) (v1 : Nat) {t : ob_S} {out : (Int32 × ob_S)} (h : X_Sl_goOn v0 v1 t = some out) : Met l y_Sl_goOn (Cond.code y_Sl_goOn cb_Sl_goOn 2 (some .boolean) :: ob_T) { frames := 1, cells := 0, slots := 0, locals := 20 } (ob_Pre b D cA adK adV [.ref (b + v0), .ref (b + v1)] t) (ob_Qi b D cA out) 0 0 (ob_A b) := by
  refine ob_met (by decide) (Nat.le_of_ble_eq_true rfl) ?_
  intro p e R s m args below meth c ls Cx hP hS hl
  have hl : lv_has ls 2 [(0, .ref (b + v0)), (1, .ref (b + v1))] := hl
  have hx := Cx.1.1
  have hb := Cx.1.2.1
  have hg := g_Sl_goOn v0 v1 h
  unfold X_Sl_goOn ob_this at h
  rw [if_pos hg] at h
  obtain ⟨H, hH⟩ : ∃ H, H = s.heap := ⟨_, rfl⟩
  obtain ⟨locs, hL⟩ : ∃ locs : List Loc, locs = [] := ⟨_, rfl⟩
  rw [← hH] at hP
  have hS : va_S (ob_A b) s.heap H locs := by rw [hH, hL]; exact hS
  suffices hW : W p l e R s m args below meth c H locs 0 0 (MQ below (ob_Qi b D cA out) args s 0 0 (ob_A b)) (F0 m 0 ls []) by rw [hH, hL] at hW; exact hW
  refine lv_aload_n hx hb d_Sl_goOn_0 rfl (lv_at hl 1 rfl) ?_
  refine ob_getI (k := 5) Cx hP ck_8 rfl w_f_Sl_102 d_Sl_goOn_1 h (fun x1 h => ?_)
  refine ob_cNi (nA := 1) (As := [.int x1]) (rest := []) Cx hl.1 hP hS (fun o ho => c_Ob_hasMore x1 ho) ms_Ob_hasMore w_n_Sl_132 rfl (by decide +kernel) ⟨rfl, rfl⟩ ⟨by decide, by decide⟩ (Nat.le_of_ble_eq_true rfl) rfl d_Sl_goOn_4 h (fun x4 t4 H locs h hP hS => ?_)
  refine lv_if_eq (tgt := 22) hx hb d_Sl_goOn_7 (by decide) (fun hq => ?_) (fun hq => ?_)
  · rw [if_pos hq] at h
    refine lv_aload_n hx hb d_Sl_goOn_22 rfl (lv_at hl 0 rfl) ?_
    refine lv_iconst (v := 2) hx hb d_Sl_goOn_23 (by decide) ?_
    refine ob_putI (k := 2) Cx hP hS ck_6 rfl rfl rfl w_f_Sl_34 d_Sl_goOn_24 h (fun t24 H locs h hP hS => ?_)
    refine lv_iconst (v := 0) hx hb d_Sl_goOn_27 (by decide) ?_
    exact ob_zret Cx hP hS d_Sl_goOn_28 h
  · rw [if_neg hq] at h
    refine lv_aload_n hx hb d_Sl_goOn_10 rfl (lv_at hl 0 rfl) ?_
    refine lv_dup hx hb d_Sl_goOn_11 rfl ?_
    refine ob_getI (k := 6) Cx hP ck_6 rfl w_f_Sl_46 d_Sl_goOn_12 h (fun x12 h => ?_)
    refine lv_iconst (v := 1) hx hb d_Sl_goOn_15 (by decide) ?_
    refine lv_iadd hx hb d_Sl_goOn_16 ?_
    refine ob_putI (k := 6) Cx hP hS ck_6 rfl rfl rfl w_f_Sl_46 d_Sl_goOn_17 h (fun t17 H locs h hP hS => ?_)
    refine lv_iconst (v := 1) hx hb d_Sl_goOn_20 (by decide) ?_
    exact ob_zret Cx hP hS d_Sl_goOn_21 h
set_option maxHeartbeats 4000000 in
set_option maxRecDepth 100000 in
theorem tB_Sl_takeBlock_66 {p : Program} {l : Launch} {e : Env} {R : Room} {s : State} {m : MethodId} {args : Array Value} {below : List Frame} {meth : Method} {c : Code} {b : Nat} {D : va_G} {cA : Nat → ClassId} {adK adV : Nat → Nat} {out : (Int32 × ob_S)} (Cx : ob_C p R s m args meth c cb_Sl_takeBlock 2 "ObservedBlocks$Slot" (some .boolean) b D cA adK adV 2 52) : ∀ (t : ob_S) (H : Heap) (locs : List Loc) (ls : Array Slot) (v0 : Nat) (v1 : Nat), ob_H b D cA t H → va_S (ob_A b) s.heap H locs → lv_has ls 2 [(0, .ref (b + v0)), (1, .ref (b + v1))] → B_Sl_takeBlock_66 v0 v1 t = some out → W p l e R s m args below meth c H locs 0 0 (MQ below (ob_Qi b D cA out) args s 0 0 (ob_A b)) (F0 m 66 ls []) := by
  have hx := Cx.1.1
  have hb := Cx.1.2.1
  intro t H locs ls v0 v1 hP hS hl h
  unfold B_Sl_takeBlock_66 at h
  refine lv_aload_n hx hb d_Sl_takeBlock_66 rfl (lv_at hl 0 rfl) ?_
  refine lv_aload_n hx hb d_Sl_takeBlock_67 rfl (lv_at hl 1 rfl) ?_
  refine ob_cVi (nA := 1) (As := [.ref (b + v1)]) (rest := []) Cx hl.1 hP hS (fun o ho => c_Sl_goOn v0 v1 ho) (fun o ho => g_Sl_goOn v0 v1 ho) (by decide) (rfl : ob_cl[6]? = _) mv_Sl_goOn w_m_Sl_124 rfl (by decide +kernel) ⟨rfl, rfl⟩ ⟨by decide, by decide⟩ (Nat.le_of_ble_eq_true rfl) rfl d_Sl_takeBlock_68 h (fun x68 t68 H locs h hP hS => ?_)
  exact ob_zret Cx hP hS d_Sl_takeBlock_71 h
theorem g_Sl_takeBlock (v0 : Nat) (v1 : Nat) {t : ob_S} {out : (Int32 × ob_S)} (h : X_Sl_takeBlock v0 v1 t = some out) : v0 < ob_n t ∧ ob_k t v0 = 6 := by
  unfold X_Sl_takeBlock ob_this at h
  by_cases q : v0 < ob_n t ∧ ob_k t v0 = 6
  · exact q
  · rw [if_neg q] at h
    cases h
set_option maxHeartbeats 4000000 in
set_option maxRecDepth 100000 in
theorem c_Sl_takeBlock {l : Launch} {b : Nat} {D : va_G} {cA : Nat → ClassId} {adK adV : Nat → Nat} (v0 : Nat) (v1 : Nat) {t : ob_S} {out : (Int32 × ob_S)} (h : X_Sl_takeBlock v0 v1 t = some out) : Met l y_Sl_takeBlock (Cond.code y_Sl_takeBlock cb_Sl_takeBlock 2 (some .boolean) :: ob_T) { frames := 2, cells := 0, slots := 0, locals := 52 } (ob_Pre b D cA adK adV [.ref (b + v0), .ref (b + v1)] t) (ob_Qi b D cA out) 0 0 (ob_A b) := by
  refine ob_met (by decide) (Nat.le_of_ble_eq_true rfl) ?_
  intro p e R s m args below meth c ls Cx hP hS hl
  have hl : lv_has ls 2 [(0, .ref (b + v0)), (1, .ref (b + v1))] := hl
  have hx := Cx.1.1
  have hb := Cx.1.2.1
  have hg := g_Sl_takeBlock v0 v1 h
  unfold X_Sl_takeBlock ob_this at h
  rw [if_pos hg] at h
  obtain ⟨H, hH⟩ : ∃ H, H = s.heap := ⟨_, rfl⟩
  obtain ⟨locs, hL⟩ : ∃ locs : List Loc, locs = [] := ⟨_, rfl⟩
  rw [← hH] at hP
  have hS : va_S (ob_A b) s.heap H locs := by rw [hH, hL]; exact hS
  suffices hW : W p l e R s m args below meth c H locs 0 0 (MQ below (ob_Qi b D cA out) args s 0 0 (ob_A b)) (F0 m 0 ls []) by rw [hH, hL] at hW; exact hW
  refine lv_aload_n hx hb d_Sl_takeBlock_0 rfl (lv_at hl 0 rfl) ?_
  refine ob_getR (k := 0) Cx hP ck_6 rfl w_f_Sl_14 d_Sl_takeBlock_1 h (fun n1 h => ?_)
  refine lv_aload_n hx hb d_Sl_takeBlock_4 rfl (lv_at hl 0 rfl) ?_
  refine ob_getI (k := 6) Cx hP ck_6 rfl w_f_Sl_46 d_Sl_takeBlock_5 h (fun x5 h => ?_)
  refine lv_aload_n hx hb d_Sl_takeBlock_8 rfl (lv_at hl 0 rfl) ?_
  refine ob_getI (k := 5) Cx hP ck_6 rfl w_f_Sl_43 d_Sl_takeBlock_9 h (fun x9 h => ?_)
  refine ob_cNi (nA := 1) (As := [.int x9]) (rest := [.int x5, .ref (b + n1)]) Cx hl.1 hP hS (fun o ho => c_Ob_sizeOf x9 ho) ms_Ob_sizeOf w_n_Sl_84 rfl (by decide +kernel) ⟨rfl, rfl⟩ ⟨by decide, by decide⟩ (Nat.le_of_ble_eq_true rfl) rfl d_Sl_takeBlock_12 h (fun x12 t12 H locs h hP hS => ?_)
  refine lv_imul hx hb d_Sl_takeBlock_15 ?_
  refine ob_cVv (nA := 1) (As := [.int (x5 * x12)]) (rest := []) Cx hl.1 hP hS (fun o ho => c_By_cutTo n1 (x5 * x12) ho) (fun o ho => g_By_cutTo n1 (x5 * x12) ho) (by decide) (rfl : ob_cl[0]? = _) mv_By_cutTo w_m_Sl_114 rfl (by decide +kernel) ⟨rfl, rfl⟩ ⟨by decide, by decide⟩ (Nat.le_of_ble_eq_true rfl) rfl d_Sl_takeBlock_16 h (fun t16 H locs h hP hS => ?_)
  refine lv_aload_n hx hb d_Sl_takeBlock_19 rfl (lv_at hl 0 rfl) ?_
  refine ob_getR (k := 0) Cx hP ck_6 rfl w_f_Sl_14 d_Sl_takeBlock_20 h (fun n20 h => ?_)
  refine lv_aload_n hx hb d_Sl_takeBlock_23 rfl (lv_at hl 1 rfl) ?_
  refine ob_getR (k := 10) Cx hP ck_8 rfl w_f_Sl_111 d_Sl_takeBlock_24 h (fun n24 h => ?_)
  refine lv_iconst (v := 0) hx hb d_Sl_takeBlock_27 (by decide) ?_
  refine lv_aload_n hx hb d_Sl_takeBlock_28 rfl (lv_at hl 1 rfl) ?_
  refine ob_getR (k := 10) Cx hP ck_8 rfl w_f_Sl_111 d_Sl_takeBlock_29 h (fun n29 h => ?_)
  refine ob_getI (k := 1) Cx hP ck_0 rfl w_f_Sl_81 d_Sl_takeBlock_32 h (fun x32 h => ?_)
  refine ob_cVv (nA := 3) (As := [.ref (b + n24), .int (0 : Int32), .int x32]) (rest := []) Cx hl.1 hP hS (fun o ho => c_By_addFrom n20 n24 (0 : Int32) x32 ho) (fun o ho => g_By_addFrom n20 n24 (0 : Int32) x32 ho) (by decide) (rfl : ob_cl[0]? = _) mv_By_addFrom w_m_Sl_117 rfl (by decide +kernel) ⟨rfl, rfl⟩ ⟨by decide, by decide⟩ (Nat.le_of_ble_eq_true rfl) rfl d_Sl_takeBlock_35 h (fun t35 H locs h hP hS => ?_)
  refine lv_aload_n hx hb d_Sl_takeBlock_38 rfl (lv_at hl 0 rfl) ?_
  refine ob_getI (k := 10) Cx hP ck_6 rfl w_f_Sl_53 d_Sl_takeBlock_39 h (fun x39 h => ?_)
  refine lv_if_eq (tgt := 66) hx hb d_Sl_takeBlock_42 (by decide) (fun hq => ?_) (fun hq => ?_)
  · rw [if_pos hq] at h
    exact tB_Sl_takeBlock_66 Cx t35 H locs ls v0 v1 hP hS (lv_sub hl [0, 1] rfl) h
  · rw [if_neg hq] at h
    refine lv_aload_n hx hb d_Sl_takeBlock_45 rfl (lv_at hl 1 rfl) ?_
    refine ob_getI (k := 4) Cx hP ck_8 rfl w_f_Sl_121 d_Sl_takeBlock_46 h (fun x46 h => ?_)
    refine lv_iconst (v := -1) hx hb d_Sl_takeBlock_49 (by decide) ?_
    refine lv_icmp_eq (tgt := 66) hx hb d_Sl_takeBlock_50 (by decide) (fun hq => ?_) (fun hq => ?_)
    · rw [if_pos hq] at h
      exact tB_Sl_takeBlock_66 Cx t35 H locs ls v0 v1 hP hS (lv_sub hl [0, 1] rfl) h
    · rw [if_neg hq] at h
      refine lv_aload_n hx hb d_Sl_takeBlock_53 rfl (lv_at hl 0 rfl) ?_
      refine lv_iconst (v := 1) hx hb d_Sl_takeBlock_54 (by decide) ?_
      refine ob_putZ (k := 11) Cx hP hS ck_6 rfl rfl rfl w_f_Sl_56 d_Sl_takeBlock_55 h (fun t55 H locs h hP hS => ?_)
      refine lv_aload_n hx hb d_Sl_takeBlock_58 rfl (lv_at hl 0 rfl) ?_
      refine lv_aload_n hx hb d_Sl_takeBlock_59 rfl (lv_at hl 1 rfl) ?_
      refine ob_getI (k := 4) Cx hP ck_8 rfl w_f_Sl_121 d_Sl_takeBlock_60 h (fun x60 h => ?_)
      refine ob_putI (k := 12) Cx hP hS ck_6 rfl rfl rfl w_f_Sl_59 d_Sl_takeBlock_63 h (fun t63 H locs h hP hS => ?_)
      exact tB_Sl_takeBlock_66 Cx t63 H locs ls v0 v1 hP hS (lv_sub hl [0, 1] rfl) h
set_option maxHeartbeats 4000000 in
set_option maxRecDepth 100000 in
theorem tB_Sl_takeAnswer_95 {p : Program} {l : Launch} {e : Env} {R : Room} {s : State} {m : MethodId} {args : Array Value} {below : List Frame} {meth : Method} {c : Code} {b : Nat} {D : va_G} {cA : Nat → ClassId} {adK adV : Nat → Nat} {out : (Int32 × ob_S)} (Cx : ob_C p R s m args meth c cb_Sl_takeAnswer 2 "ObservedBlocks$Slot" (some .boolean) b D cA adK adV 3 73) : ∀ (t : ob_S) (H : Heap) (locs : List Loc) (ls : Array Slot) (v0 : Nat) (v1 : Nat), ob_H b D cA t H → va_S (ob_A b) s.heap H locs → lv_has ls 2 [(0, .ref (b + v0)), (1, .ref (b + v1))] → B_Sl_takeAnswer_95 v0 v1 t = some out → W p l e R s m args below meth c H locs 0 0 (MQ below (ob_Qi b D cA out) args s 0 0 (ob_A b)) (F0 m 95 ls []) := by
  have hx := Cx.1.1
  have hb := Cx.1.2.1
  intro t H locs ls v0 v1 hP hS hl h
  unfold B_Sl_takeAnswer_95 at h
  refine lv_aload_n hx hb d_Sl_takeAnswer_95 rfl (lv_at hl 0 rfl) ?_
  refine lv_iconst (v := 4) hx hb d_Sl_takeAnswer_96 (by decide) ?_
  refine ob_putI (k := 2) Cx hP hS ck_6 rfl rfl rfl w_f_Sl_34 d_Sl_takeAnswer_97 h (fun t97 H locs h hP hS => ?_)
  refine lv_aload_n hx hb d_Sl_takeAnswer_100 rfl (lv_at hl 0 rfl) ?_
  refine lv_aload_n hx hb d_Sl_takeAnswer_101 rfl (lv_at hl 1 rfl) ?_
  refine ob_getI (k := 1) Cx hP ck_8 rfl w_f_Sl_88 d_Sl_takeAnswer_102 h (fun x102 h => ?_)
  refine ob_putI (k := 13) Cx hP hS ck_6 rfl rfl rfl w_f_Sl_62 d_Sl_takeAnswer_105 h (fun t105 H locs h hP hS => ?_)
  refine lv_iconst (v := 0) hx hb d_Sl_takeAnswer_108 (by decide) ?_
  exact ob_zret Cx hP hS d_Sl_takeAnswer_109 h
set_option maxHeartbeats 4000000 in
set_option maxRecDepth 100000 in
theorem tB_Sl_takeAnswer_72 {p : Program} {l : Launch} {e : Env} {R : Room} {s : State} {m : MethodId} {args : Array Value} {below : List Frame} {meth : Method} {c : Code} {b : Nat} {D : va_G} {cA : Nat → ClassId} {adK adV : Nat → Nat} {out : (Int32 × ob_S)} (Cx : ob_C p R s m args meth c cb_Sl_takeAnswer 2 "ObservedBlocks$Slot" (some .boolean) b D cA adK adV 3 73) : ∀ (t : ob_S) (H : Heap) (locs : List Loc) (ls : Array Slot) (v0 : Nat) (v1 : Nat), ob_H b D cA t H → va_S (ob_A b) s.heap H locs → lv_has ls 2 [(0, .ref (b + v0)), (1, .ref (b + v1))] → B_Sl_takeAnswer_72 v0 v1 t = some out → W p l e R s m args below meth c H locs 0 0 (MQ below (ob_Qi b D cA out) args s 0 0 (ob_A b)) (F0 m 72 ls []) := by
  have hx := Cx.1.1
  have hb := Cx.1.2.1
  intro t H locs ls v0 v1 hP hS hl h
  unfold B_Sl_takeAnswer_72 at h
  refine lv_aload_n hx hb d_Sl_takeAnswer_72 rfl (lv_at hl 0 rfl) ?_
  refine ob_getI (k := 7) Cx hP ck_6 rfl w_f_Sl_49 d_Sl_takeAnswer_73 h (fun x73 h => ?_)
  refine lv_if_eq (tgt := 95) hx hb d_Sl_takeAnswer_76 (by decide) (fun hq => ?_) (fun hq => ?_)
  · rw [if_pos hq] at h
    exact tB_Sl_takeAnswer_95 Cx t H locs ls v0 v1 hP hS (lv_sub hl [0, 1] rfl) h
  · rw [if_neg hq] at h
    refine lv_aload_n hx hb d_Sl_takeAnswer_79 rfl (lv_at hl 1 rfl) ?_
    refine ob_getI (k := 1) Cx hP ck_8 rfl w_f_Sl_88 d_Sl_takeAnswer_80 h (fun x80 h => ?_)
    refine lv_bipush (v := 68) hx hb d_Sl_takeAnswer_83 (by decide) ?_
    refine lv_icmp_ne (tgt := 95) hx hb d_Sl_takeAnswer_85 (by decide) (fun hq => ?_) (fun hq => ?_)
    · rw [if_pos hq] at h
      exact tB_Sl_takeAnswer_95 Cx t H locs ls v0 v1 hP hS (lv_sub hl [0, 1] rfl) h
    · rw [if_neg (fun z => z hq)] at h
      refine lv_aload_n hx hb d_Sl_takeAnswer_88 rfl (lv_at hl 0 rfl) ?_
      refine lv_iconst (v := 2) hx hb d_Sl_takeAnswer_89 (by decide) ?_
      refine ob_putI (k := 2) Cx hP hS ck_6 rfl rfl rfl w_f_Sl_34 d_Sl_takeAnswer_90 h (fun t90 H locs h hP hS => ?_)
      refine lv_iconst (v := 0) hx hb d_Sl_takeAnswer_93 (by decide) ?_
      exact ob_zret Cx hP hS d_Sl_takeAnswer_94 h
set_option maxHeartbeats 4000000 in
set_option maxRecDepth 100000 in
theorem tB_Sl_takeAnswer_37 {p : Program} {l : Launch} {e : Env} {R : Room} {s : State} {m : MethodId} {args : Array Value} {below : List Frame} {meth : Method} {c : Code} {b : Nat} {D : va_G} {cA : Nat → ClassId} {adK adV : Nat → Nat} {out : (Int32 × ob_S)} (Cx : ob_C p R s m args meth c cb_Sl_takeAnswer 2 "ObservedBlocks$Slot" (some .boolean) b D cA adK adV 3 73) : ∀ (t : ob_S) (H : Heap) (locs : List Loc) (ls : Array Slot) (v0 : Nat) (v1 : Nat), ob_H b D cA t H → va_S (ob_A b) s.heap H locs → lv_has ls 2 [(0, .ref (b + v0)), (1, .ref (b + v1))] → B_Sl_takeAnswer_37 v0 v1 t = some out → W p l e R s m args below meth c H locs 0 0 (MQ below (ob_Qi b D cA out) args s 0 0 (ob_A b)) (F0 m 37 ls []) := by
  have hx := Cx.1.1
  have hb := Cx.1.2.1
  intro t H locs ls v0 v1 hP hS hl h
  unfold B_Sl_takeAnswer_37 at h
  refine lv_aload_n hx hb d_Sl_takeAnswer_37 rfl (lv_at hl 0 rfl) ?_
  refine ob_getI (k := 7) Cx hP ck_6 rfl w_f_Sl_49 d_Sl_takeAnswer_38 h (fun x38 h => ?_)
  refine lv_if_eq (tgt := 72) hx hb d_Sl_takeAnswer_41 (by decide) (fun hq => ?_) (fun hq => ?_)
  · rw [if_pos hq] at h
    exact tB_Sl_takeAnswer_72 Cx t H locs ls v0 v1 hP hS (lv_sub hl [0, 1] rfl) h
  · rw [if_neg hq] at h
    refine lv_aload_n hx hb d_Sl_takeAnswer_44 rfl (lv_at hl 1 rfl) ?_
    refine ob_getI (k := 1) Cx hP ck_8 rfl w_f_Sl_88 d_Sl_takeAnswer_45 h (fun x45 h => ?_)
    refine lv_bipush (v := 95) hx hb d_Sl_takeAnswer_48 (by decide) ?_
    refine lv_icmp_ne (tgt := 72) hx hb d_Sl_takeAnswer_50 (by decide) (fun hq => ?_) (fun hq => ?_)
    · rw [if_pos hq] at h
      exact tB_Sl_takeAnswer_72 Cx t H locs ls v0 v1 hP hS (lv_sub hl [0, 1] rfl) h
    · rw [if_neg (fun z => z hq)] at h
      refine lv_aload_n hx hb d_Sl_takeAnswer_53 rfl (lv_at hl 0 rfl) ?_
      refine ob_cVi (nA := 0) (As := []) (rest := []) Cx hl.1 hP hS (fun o ho => c_Sl_hasMoreToPut v0 ho) (fun o ho => g_Sl_hasMoreToPut v0 ho) (by decide) (rfl : ob_cl[6]? = _) mv_Sl_hasMoreToPut w_m_Sl_98 rfl (by decide +kernel) ⟨rfl, rfl⟩ ⟨by decide, by decide⟩ (Nat.le_of_ble_eq_true rfl) rfl d_Sl_takeAnswer_54 h (fun x54 t54 H locs h hP hS => ?_)
      refine lv_if_eq (tgt := 72) hx hb d_Sl_takeAnswer_57 (by decide) (fun hq => ?_) (fun hq => ?_)
      · rw [if_pos hq] at h
        exact tB_Sl_takeAnswer_72 Cx t54 H locs ls v0 v1 hP hS (lv_sub hl [0, 1] rfl) h
      · rw [if_neg hq] at h
        refine lv_aload_n hx hb d_Sl_takeAnswer_60 rfl (lv_at hl 0 rfl) ?_
        refine lv_dup hx hb d_Sl_takeAnswer_61 rfl ?_
        refine ob_getI (k := 6) Cx hP ck_6 rfl w_f_Sl_46 d_Sl_takeAnswer_62 h (fun x62 h => ?_)
        refine lv_iconst (v := 1) hx hb d_Sl_takeAnswer_65 (by decide) ?_
        refine lv_iadd hx hb d_Sl_takeAnswer_66 ?_
        refine ob_putI (k := 6) Cx hP hS ck_6 rfl rfl rfl w_f_Sl_46 d_Sl_takeAnswer_67 h (fun t67 H locs h hP hS => ?_)
        refine lv_iconst (v := 1) hx hb d_Sl_takeAnswer_70 (by decide) ?_
        exact ob_zret Cx hP hS d_Sl_takeAnswer_71 h
theorem g_Sl_takeAnswer (v0 : Nat) (v1 : Nat) {t : ob_S} {out : (Int32 × ob_S)} (h : X_Sl_takeAnswer v0 v1 t = some out) : v0 < ob_n t ∧ ob_k t v0 = 6 := by
  unfold X_Sl_takeAnswer ob_this at h
  by_cases q : v0 < ob_n t ∧ ob_k t v0 = 6
  · exact q
  · rw [if_neg q] at h
    cases h
set_option maxHeartbeats 4000000 in
set_option maxRecDepth 100000 in
theorem c_Sl_takeAnswer {l : Launch} {b : Nat} {D : va_G} {cA : Nat → ClassId} {adK adV : Nat → Nat} (v0 : Nat) (v1 : Nat) {t : ob_S} {out : (Int32 × ob_S)} (h : X_Sl_takeAnswer v0 v1 t = some out) : Met l y_Sl_takeAnswer (Cond.code y_Sl_takeAnswer cb_Sl_takeAnswer 2 (some .boolean) :: ob_T) { frames := 3, cells := 0, slots := 0, locals := 73 } (ob_Pre b D cA adK adV [.ref (b + v0), .ref (b + v1)] t) (ob_Qi b D cA out) 0 0 (ob_A b) := by
  refine ob_met (by decide) (Nat.le_of_ble_eq_true rfl) ?_
  intro p e R s m args below meth c ls Cx hP hS hl
  have hl : lv_has ls 2 [(0, .ref (b + v0)), (1, .ref (b + v1))] := hl
  have hx := Cx.1.1
  have hb := Cx.1.2.1
  have hg := g_Sl_takeAnswer v0 v1 h
  unfold X_Sl_takeAnswer ob_this at h
  rw [if_pos hg] at h
  obtain ⟨H, hH⟩ : ∃ H, H = s.heap := ⟨_, rfl⟩
  obtain ⟨locs, hL⟩ : ∃ locs : List Loc, locs = [] := ⟨_, rfl⟩
  rw [← hH] at hP
  have hS : va_S (ob_A b) s.heap H locs := by rw [hH, hL]; exact hS
  suffices hW : W p l e R s m args below meth c H locs 0 0 (MQ below (ob_Qi b D cA out) args s 0 0 (ob_A b)) (F0 m 0 ls []) by rw [hH, hL] at hW; exact hW
  refine lv_aload_n hx hb d_Sl_takeAnswer_0 rfl (lv_at hl 0 rfl) ?_
  refine ob_getR (k := 1) Cx hP ck_6 rfl w_f_Sl_23 d_Sl_takeAnswer_1 h (fun n1 h => ?_)
  refine ob_cVv (nA := 0) (As := []) (rest := []) Cx hl.1 hP hS (fun o ho => c_Pe_stop n1 ho) (fun o ho => g_Pe_stop n1 ho) (by decide) (rfl : ob_cl[3]? = _) mv_Pe_stop w_m_Sl_68 rfl (by decide +kernel) ⟨rfl, rfl⟩ ⟨by decide, by decide⟩ (Nat.le_of_ble_eq_true rfl) rfl d_Sl_takeAnswer_4 h (fun t4 H locs h hP hS => ?_)
  refine lv_aload_n hx hb d_Sl_takeAnswer_7 rfl (lv_at hl 0 rfl) ?_
  refine ob_getI (k := 7) Cx hP ck_6 rfl w_f_Sl_49 d_Sl_takeAnswer_8 h (fun x8 h => ?_)
  refine lv_if_ne (tgt := 37) hx hb d_Sl_takeAnswer_11 (by decide) (fun hq => ?_) (fun hq => ?_)
  · rw [if_pos hq] at h
    exact tB_Sl_takeAnswer_37 Cx t4 H locs ls v0 v1 hP hS (lv_sub hl [0, 1] rfl) h
  · rw [if_neg (fun z => z hq)] at h
    refine lv_aload_n hx hb d_Sl_takeAnswer_14 rfl (lv_at hl 1 rfl) ?_
    refine ob_getI (k := 1) Cx hP ck_8 rfl w_f_Sl_88 d_Sl_takeAnswer_15 h (fun x15 h => ?_)
    refine lv_bipush (v := 69) hx hb d_Sl_takeAnswer_18 (by decide) ?_
    refine lv_icmp_ne (tgt := 37) hx hb d_Sl_takeAnswer_20 (by decide) (fun hq => ?_) (fun hq => ?_)
    · rw [if_pos hq] at h
      exact tB_Sl_takeAnswer_37 Cx t4 H locs ls v0 v1 hP hS (lv_sub hl [0, 1] rfl) h
    · rw [if_neg (fun z => z hq)] at h
      refine lv_aload_n hx hb d_Sl_takeAnswer_23 rfl (lv_at hl 0 rfl) ?_
      refine lv_aload_n hx hb d_Sl_takeAnswer_24 rfl (lv_at hl 1 rfl) ?_
      refine ob_cVi (nA := 1) (As := [.ref (b + v1)]) (rest := []) Cx hl.1 hP hS (fun o ho => c_Sl_isBlockDue v0 v1 ho) (fun o ho => g_Sl_isBlockDue v0 v1 ho) (by decide) (rfl : ob_cl[6]? = _) mv_Sl_isBlockDue w_m_Sl_91 rfl (by decide +kernel) ⟨rfl, rfl⟩ ⟨by decide, by decide⟩ (Nat.le_of_ble_eq_true rfl) rfl d_Sl_takeAnswer_25 h (fun x25 t25 H locs h hP hS => ?_)
      refine lv_if_eq (tgt := 37) hx hb d_Sl_takeAnswer_28 (by decide) (fun hq => ?_) (fun hq => ?_)
      · rw [if_pos hq] at h
        exact tB_Sl_takeAnswer_37 Cx t25 H locs ls v0 v1 hP hS (lv_sub hl [0, 1] rfl) h
      · rw [if_neg hq] at h
        refine lv_aload_n hx hb d_Sl_takeAnswer_31 rfl (lv_at hl 0 rfl) ?_
        refine lv_aload_n hx hb d_Sl_takeAnswer_32 rfl (lv_at hl 1 rfl) ?_
        refine ob_cVi (nA := 1) (As := [.ref (b + v1)]) (rest := []) Cx hl.1 hP hS (fun o ho => c_Sl_takeBlock v0 v1 ho) (fun o ho => g_Sl_takeBlock v0 v1 ho) (by decide) (rfl : ob_cl[6]? = _) mv_Sl_takeBlock w_m_Sl_95 rfl (by decide +kernel) ⟨rfl, rfl⟩ ⟨by decide, by decide⟩ (Nat.le_of_ble_eq_true rfl) rfl d_Sl_takeAnswer_33 h (fun x33 t33 H locs h hP hS => ?_)
        exact ob_zret Cx hP hS d_Sl_takeAnswer_36 h
set_option maxHeartbeats 4000000 in
set_option maxRecDepth 100000 in
theorem tB_Cl_receiveAnswer_2 {p : Program} {l : Launch} {e : Env} {R : Room} {s : State} {m : MethodId} {args : Array Value} {below : List Frame} {meth : Method} {c : Code} {b : Nat} {D : va_G} {cA : Nat → ClassId} {adK adV : Nat → Nat} {out : ob_S} (Cx : ob_C p R s m args meth c cb_Cl_receiveAnswer 3 "ObservedBlocks$Client" none b D cA adK adV 6 130) : ∀ (fu : Nat), ∀ (t : ob_S) (H : Heap) (locs : List Loc) (ls : Array Slot) (v0 : Nat) (v1 : Nat) (v2 : Int32), ob_H b D cA t H → va_S (ob_A b) s.heap H locs → lv_has ls 3 [(0, .ref (b + v0)), (1, .ref (b + v1)), (2, .int v2)] → B_Cl_receiveAnswer_2 fu v0 v1 v2 t = some out → W p l e R s m args below meth c H locs 0 0 (MQ below (ob_Qv b D cA out) args s 0 0 (ob_A b)) (F0 m 2 ls []) := by
  have hx := Cx.1.1
  have hb := Cx.1.2.1
  intro fu
  induction fu with
  | zero =>
    intro t H locs ls v0 v1 v2 hP hS hl h
    cases h
  | succ fu ih =>
    intro t H locs ls v0 v1 v2 hP hS hl h
    rw [B_Cl_receiveAnswer_2] at h
    refine lv_iload_n hx hb d_Cl_receiveAnswer_2 rfl (lv_at hl 2 rfl) ?_
    refine lv_iconst (v := 2) hx hb d_Cl_receiveAnswer_3 (by decide) ?_
    refine lv_icmp_ge (tgt := 50) hx hb d_Cl_receiveAnswer_4 (by decide) (fun hq => ?_) (fun hq => ?_)
    · rw [if_pos hq] at h
      exact ob_vret Cx hP hS d_Cl_receiveAnswer_50 h
    · rw [if_neg hq] at h
      refine lv_aload_n hx hb d_Cl_receiveAnswer_7 rfl (lv_at hl 0 rfl) ?_
      refine ob_getR (k := 0) Cx hP ck_7 rfl w_f_Cl_11 d_Cl_receiveAnswer_8 h (fun n8 h => ?_)
      refine lv_iload_n hx hb d_Cl_receiveAnswer_11 rfl (lv_at hl 2 rfl) ?_
      refine ob_aldR (kd := 15) Cx hP (by decide) rfl d_Cl_receiveAnswer_12 h (fun n12 h => ?_)
      refine lv_aload_n hx hb d_Cl_receiveAnswer_13 rfl (lv_at hl 1 rfl) ?_
      refine ob_cVi (nA := 1) (As := [.ref (b + v1)]) (rest := []) Cx hl.1 hP hS (fun o ho => c_Sl_isAskedFor n12 v1 ho) (fun o ho => g_Sl_isAskedFor n12 v1 ho) (by decide) (rfl : ob_cl[6]? = _) mv_Sl_isAskedFor w_m_Cl_138 rfl (by decide +kernel) ⟨rfl, rfl⟩ ⟨by decide, by decide⟩ (Nat.le_of_ble_eq_true rfl) rfl d_Cl_receiveAnswer_14 h (fun x14 t14 H locs h hP hS => ?_)
      refine lv_if_eq (tgt := 44) hx hb d_Cl_receiveAnswer_17 (by decide) (fun hq => ?_) (fun hq => ?_)
      · rw [if_pos hq] at h
        refine lv_iinc (v := (v2 + (1 : Int32))) (lv' := [(2, .int (v2 + (1 : Int32))), (0, .ref (b + v0)), (1, .ref (b + v1))]) hx hb d_Cl_receiveAnswer_44 hl (k := 2) rfl rfl (by decide) rfl (fun ls hl => ?_)
        refine lv_goto (tgt := 2) hx hb d_Cl_receiveAnswer_47 (by decide) ?_
        exact ih t14 H locs ls v0 v1 (v2 + (1 : Int32)) hP hS (lv_sub hl [1, 2, 0] rfl) h
      · rw [if_neg hq] at h
        refine lv_aload_n hx hb d_Cl_receiveAnswer_20 rfl (lv_at hl 0 rfl) ?_
        refine ob_getR (k := 0) Cx hP ck_7 rfl w_f_Cl_11 d_Cl_receiveAnswer_21 h (fun n21 h => ?_)
        refine lv_iload_n hx hb d_Cl_receiveAnswer_24 rfl (lv_at hl 2 rfl) ?_
        refine ob_aldR (kd := 15) Cx hP (by decide) rfl d_Cl_receiveAnswer_25 h (fun n25 h => ?_)
        refine lv_aload_n hx hb d_Cl_receiveAnswer_26 rfl (lv_at hl 1 rfl) ?_
        refine ob_cVi (nA := 1) (As := [.ref (b + v1)]) (rest := []) Cx hl.1 hP hS (fun o ho => c_Sl_takeAnswer n25 v1 ho) (fun o ho => g_Sl_takeAnswer n25 v1 ho) (by decide) (rfl : ob_cl[6]? = _) mv_Sl_takeAnswer w_m_Cl_142 rfl (by decide +kernel) ⟨rfl, rfl⟩ ⟨by decide, by decide⟩ (Nat.le_of_ble_eq_true rfl) rfl d_Cl_receiveAnswer_27 h (fun x27 t27 H locs h hP hS => ?_)
        refine lv_if_eq (tgt := 43) hx hb d_Cl_receiveAnswer_30 (by decide) (fun hq => ?_) (fun hq => ?_)
        · rw [if_pos hq] at h
          exact ob_vret Cx hP hS d_Cl_receiveAnswer_43 h
        · rw [if_neg hq] at h
          refine lv_aload_n hx hb d_Cl_receiveAnswer_33 rfl (lv_at hl 0 rfl) ?_
          refine lv_aload_n hx hb d_Cl_receiveAnswer_34 rfl (lv_at hl 0 rfl) ?_
          refine ob_getR (k := 0) Cx hP ck_7 rfl w_f_Cl_11 d_Cl_receiveAnswer_35 h (fun n35 h => ?_)
          refine lv_iload_n hx hb d_Cl_receiveAnswer_38 rfl (lv_at hl 2 rfl) ?_
          refine ob_aldR (kd := 15) Cx hP (by decide) rfl d_Cl_receiveAnswer_39 h (fun n39 h => ?_)
          refine ob_cVv (nA := 1) (As := [.ref (b + n39)]) (rest := []) Cx hl.1 hP hS (fun o ho => c_Cl_ask v0 n39 ho) (fun o ho => g_Cl_ask v0 n39 ho) (by decide) (rfl : ob_cl[7]? = _) mv_Cl_ask w_m_Cl_145 rfl (by decide +kernel) ⟨rfl, rfl⟩ ⟨by decide, by decide⟩ (Nat.le_of_ble_eq_true rfl) rfl d_Cl_receiveAnswer_40 h (fun t40 H locs h hP hS => ?_)
          exact ob_vret Cx hP hS d_Cl_receiveAnswer_43 h
theorem g_Cl_receiveAnswer (v0 : Nat) (v1 : Nat) {t : ob_S} {out : ob_S} (h : X_Cl_receiveAnswer v0 v1 t = some out) : v0 < ob_n t ∧ ob_k t v0 = 7 := by
  unfold X_Cl_receiveAnswer ob_this at h
  by_cases q : v0 < ob_n t ∧ ob_k t v0 = 7
  · exact q
  · rw [if_neg q] at h
    cases h
set_option maxHeartbeats 4000000 in
set_option maxRecDepth 100000 in
theorem c_Cl_receiveAnswer {l : Launch} {b : Nat} {D : va_G} {cA : Nat → ClassId} {adK adV : Nat → Nat} (v0 : Nat) (v1 : Nat) {t : ob_S} {out : ob_S} (h : X_Cl_receiveAnswer v0 v1 t = some out) : Met l y_Cl_receiveAnswer (Cond.code y_Cl_receiveAnswer cb_Cl_receiveAnswer 3 none :: ob_T) { frames := 6, cells := 0, slots := 0, locals := 130 } (ob_Pre b D cA adK adV [.ref (b + v0), .ref (b + v1)] t) (ob_Qv b D cA out) 0 0 (ob_A b) := by
  refine ob_met (by decide) (Nat.le_of_ble_eq_true rfl) ?_
  intro p e R s m args below meth c ls Cx hP hS hl
  have hl : lv_has ls 3 [(0, .ref (b + v0)), (1, .ref (b + v1))] := hl
  have hx := Cx.1.1
  have hb := Cx.1.2.1
  have hg := g_Cl_receiveAnswer v0 v1 h
  unfold X_Cl_receiveAnswer ob_this at h
  rw [if_pos hg] at h
  obtain ⟨H, hH⟩ : ∃ H, H = s.heap := ⟨_, rfl⟩
  obtain ⟨locs, hL⟩ : ∃ locs : List Loc, locs = [] := ⟨_, rfl⟩
  rw [← hH] at hP
  have hS : va_S (ob_A b) s.heap H locs := by rw [hH, hL]; exact hS
  suffices hW : W p l e R s m args below meth c H locs 0 0 (MQ below (ob_Qv b D cA out) args s 0 0 (ob_A b)) (F0 m 0 ls []) by rw [hH, hL] at hW; exact hW
  refine lv_iconst (v := 0) hx hb d_Cl_receiveAnswer_0 (by decide) ?_
  refine lv_istore_n (lv' := [(2, .int (0 : Int32)), (0, .ref (b + v0)), (1, .ref (b + v1))]) hx hb d_Cl_receiveAnswer_1 rfl hl (by decide) rfl (fun ls hl => ?_)
  exact tB_Cl_receiveAnswer_2 Cx ob_fu t H locs ls v0 v1 (0 : Int32) hP hS (lv_sub hl [1, 2, 0] rfl) h
set_option maxHeartbeats 4000000 in
set_option maxRecDepth 100000 in
theorem tB_Sl_isWatchedFor_29 {p : Program} {l : Launch} {e : Env} {R : Room} {s : State} {m : MethodId} {args : Array Value} {below : List Frame} {meth : Method} {c : Code} {b : Nat} {D : va_G} {cA : Nat → ClassId} {adK adV : Nat → Nat} {out : (Int32 × ob_S)} (Cx : ob_C p R s m args meth c cb_Sl_isWatchedFor 2 "ObservedBlocks$Slot" (some .boolean) b D cA adK adV 0 0) : ∀ (t : ob_S) (H : Heap) (locs : List Loc) (ls : Array Slot), ob_H b D cA t H → va_S (ob_A b) s.heap H locs → lv_has ls 2 [] → B_Sl_isWatchedFor_29 t = some out → W p l e R s m args below meth c H locs 0 0 (MQ below (ob_Qi b D cA out) args s 0 0 (ob_A b)) (F0 m 29 ls []) := by
  have hx := Cx.1.1
  have hb := Cx.1.2.1
  intro t H locs ls  hP hS hl h
  unfold B_Sl_isWatchedFor_29 at h
  refine lv_iconst (v := 0) hx hb d_Sl_isWatchedFor_29 (by decide) ?_
  exact ob_zret Cx hP hS d_Sl_isWatchedFor_30 h
theorem g_Sl_isWatchedFor (v0 : Nat) (v1 : Nat) {t : ob_S} {out : (Int32 × ob_S)} (h : X_Sl_isWatchedFor v0 v1 t = some out) : v0 < ob_n t ∧ ob_k t v0 = 6 := by
  unfold X_Sl_isWatchedFor ob_this at h
  by_cases q : v0 < ob_n t ∧ ob_k t v0 = 6
  · exact q
  · rw [if_neg q] at h
    cases h
set_option maxHeartbeats 4000000 in
set_option maxRecDepth 100000 in
theorem c_Sl_isWatchedFor {l : Launch} {b : Nat} {D : va_G} {cA : Nat → ClassId} {adK adV : Nat → Nat} (v0 : Nat) (v1 : Nat) {t : ob_S} {out : (Int32 × ob_S)} (h : X_Sl_isWatchedFor v0 v1 t = some out) : Met l y_Sl_isWatchedFor (Cond.code y_Sl_isWatchedFor cb_Sl_isWatchedFor 2 (some .boolean) :: ob_T) { frames := 0, cells := 0, slots := 0, locals := 0 } (ob_Pre b D cA adK adV [.ref (b + v0), .ref (b + v1)] t) (ob_Qi b D cA out) 0 0 (ob_A b) := by
  refine ob_met (by decide) (Nat.le_of_ble_eq_true rfl) ?_
  intro p e R s m args below meth c ls Cx hP hS hl
  have hl : lv_has ls 2 [(0, .ref (b + v0)), (1, .ref (b + v1))] := hl
  have hx := Cx.1.1
  have hb := Cx.1.2.1
  have hg := g_Sl_isWatchedFor v0 v1 h
  unfold X_Sl_isWatchedFor ob_this at h
  rw [if_pos hg] at h
  obtain ⟨H, hH⟩ : ∃ H, H = s.heap := ⟨_, rfl⟩
  obtain ⟨locs, hL⟩ : ∃ locs : List Loc, locs = [] := ⟨_, rfl⟩
  rw [← hH] at hP
  have hS : va_S (ob_A b) s.heap H locs := by rw [hH, hL]; exact hS
  suffices hW : W p l e R s m args below meth c H locs 0 0 (MQ below (ob_Qi b D cA out) args s 0 0 (ob_A b)) (F0 m 0 ls []) by rw [hH, hL] at hW; exact hW
  refine lv_aload_n hx hb d_Sl_isWatchedFor_0 rfl (lv_at hl 0 rfl) ?_
  refine ob_getI (k := 2) Cx hP ck_6 rfl w_f_Sl_34 d_Sl_isWatchedFor_1 h (fun x1 h => ?_)
  refine lv_if_eq (tgt := 29) hx hb d_Sl_isWatchedFor_4 (by decide) (fun hq => ?_) (fun hq => ?_)
  · rw [if_pos hq] at h
    exact tB_Sl_isWatchedFor_29 Cx t H locs ls hP hS (lv_sub hl [] rfl) h
  · rw [if_neg hq] at h
    refine lv_aload_n hx hb d_Sl_isWatchedFor_7 rfl (lv_at hl 0 rfl) ?_
    refine ob_getI (k := 11) Cx hP ck_6 rfl w_f_Sl_56 d_Sl_isWatchedFor_8 h (fun x8 h => ?_)
    refine lv_if_eq (tgt := 29) hx hb d_Sl_isWatchedFor_11 (by decide) (fun hq => ?_) (fun hq => ?_)
    · rw [if_pos hq] at h
      exact tB_Sl_isWatchedFor_29 Cx t H locs ls hP hS (lv_sub hl [] rfl) h
    · rw [if_neg hq] at h
      refine lv_aload_n hx hb d_Sl_isWatchedFor_14 rfl (lv_at hl 0 rfl) ?_
      refine ob_getI (k := 3) Cx hP ck_6 rfl w_f_Sl_37 d_Sl_isWatchedFor_15 h (fun x15 h => ?_)
      refine lv_aload_n hx hb d_Sl_isWatchedFor_18 rfl (lv_at hl 1 rfl) ?_
      refine ob_getI (k := 3) Cx hP ck_8 rfl w_f_Sl_80 d_Sl_isWatchedFor_19 h (fun x19 h => ?_)
      refine lv_icmp_ne (tgt := 29) hx hb d_Sl_isWatchedFor_22 (by decide) (fun hq => ?_) (fun hq => ?_)
      · rw [if_pos hq] at h
        exact tB_Sl_isWatchedFor_29 Cx t H locs ls hP hS (lv_sub hl [] rfl) h
      · rw [if_neg (fun z => z hq)] at h
        refine lv_iconst (v := 1) hx hb d_Sl_isWatchedFor_25 (by decide) ?_
        refine lv_goto (tgt := 30) hx hb d_Sl_isWatchedFor_26 (by decide) ?_
        exact ob_zret Cx hP hS d_Sl_isWatchedFor_30 h
theorem g_Wr_beginEmpty (v0 : Nat) (v1 : Int32) (v2 : Int32) {t : ob_S} {out : ob_S} (h : X_Wr_beginEmpty v0 v1 v2 t = some out) : v0 < ob_n t ∧ ob_k t v0 = 4 := by
  unfold X_Wr_beginEmpty ob_this at h
  by_cases q : v0 < ob_n t ∧ ob_k t v0 = 4
  · exact q
  · rw [if_neg q] at h
    cases h
set_option maxHeartbeats 4000000 in
set_option maxRecDepth 100000 in
theorem c_Wr_beginEmpty {l : Launch} {b : Nat} {D : va_G} {cA : Nat → ClassId} {adK adV : Nat → Nat} (v0 : Nat) (v1 : Int32) (v2 : Int32) {t : ob_S} {out : ob_S} (h : X_Wr_beginEmpty v0 v1 v2 t = some out) : Met l y_Wr_beginEmpty (Cond.code y_Wr_beginEmpty cb_Wr_beginEmpty 3 none :: ob_T) { frames := 1, cells := 0, slots := 0, locals := 21 } (ob_Pre b D cA adK adV [.ref (b + v0), .int v1, .int v2] t) (ob_Qv b D cA out) 0 0 (ob_A b) := by
  refine ob_met (by decide) (Nat.le_of_ble_eq_true rfl) ?_
  intro p e R s m args below meth c ls Cx hP hS hl
  have hl : lv_has ls 3 [(0, .ref (b + v0)), (1, .int v1), (2, .int v2)] := hl
  have hx := Cx.1.1
  have hb := Cx.1.2.1
  have hg := g_Wr_beginEmpty v0 v1 v2 h
  unfold X_Wr_beginEmpty ob_this at h
  rw [if_pos hg] at h
  obtain ⟨H, hH⟩ : ∃ H, H = s.heap := ⟨_, rfl⟩
  obtain ⟨locs, hL⟩ : ∃ locs : List Loc, locs = [] := ⟨_, rfl⟩
  rw [← hH] at hP
  have hS : va_S (ob_A b) s.heap H locs := by rw [hH, hL]; exact hS
  suffices hW : W p l e R s m args below meth c H locs 0 0 (MQ below (ob_Qv b D cA out) args s 0 0 (ob_A b)) (F0 m 0 ls []) by rw [hH, hL] at hW; exact hW
  refine lv_aload_n hx hb d_Wr_beginEmpty_0 rfl (lv_at hl 0 rfl) ?_
  refine ob_getR (k := 0) Cx hP ck_4 rfl w_f_Wr_14 d_Wr_beginEmpty_1 h (fun n1 h => ?_)
  refine ob_cVv (nA := 0) (As := []) (rest := []) Cx hl.1 hP hS (fun o ho => c_By_clear n1 ho) (fun o ho => g_By_clear n1 ho) (by decide) (rfl : ob_cl[0]? = _) mv_By_clear w_m_Wr_24 rfl (by decide +kernel) ⟨rfl, rfl⟩ ⟨by decide, by decide⟩ (Nat.le_of_ble_eq_true rfl) rfl d_Wr_beginEmpty_4 h (fun t4 H locs h hP hS => ?_)
  refine lv_aload_n hx hb d_Wr_beginEmpty_7 rfl (lv_at hl 0 rfl) ?_
  refine ob_getR (k := 0) Cx hP ck_4 rfl w_f_Wr_14 d_Wr_beginEmpty_8 h (fun n8 h => ?_)
  refine lv_bipush (v := 64) hx hb d_Wr_beginEmpty_11 (by decide) ?_
  refine lv_bipush (v := 16) hx hb d_Wr_beginEmpty_13 (by decide) ?_
  refine lv_iload_n hx hb d_Wr_beginEmpty_15 rfl (lv_at hl 1 rfl) ?_
  refine lv_imul hx hb d_Wr_beginEmpty_16 ?_
  refine lv_iadd hx hb d_Wr_beginEmpty_17 ?_
  refine ob_cVv (nA := 1) (As := [.int ((64 : Int32) + ((16 : Int32) * v1))]) (rest := []) Cx hl.1 hP hS (fun o ho => c_By_add n8 ((64 : Int32) + ((16 : Int32) * v1)) ho) (fun o ho => g_By_add n8 ((64 : Int32) + ((16 : Int32) * v1)) ho) (by decide) (rfl : ob_cl[0]? = _) mv_By_add w_m_Wr_27 rfl (by decide +kernel) ⟨rfl, rfl⟩ ⟨by decide, by decide⟩ (Nat.le_of_ble_eq_true rfl) rfl d_Wr_beginEmpty_18 h (fun t18 H locs h hP hS => ?_)
  refine lv_aload_n hx hb d_Wr_beginEmpty_21 rfl (lv_at hl 0 rfl) ?_
  refine ob_getR (k := 0) Cx hP ck_4 rfl w_f_Wr_14 d_Wr_beginEmpty_22 h (fun n22 h => ?_)
  refine lv_iconst (v := 0) hx hb d_Wr_beginEmpty_25 (by decide) ?_
  refine ob_cVv (nA := 1) (As := [.int (0 : Int32)]) (rest := []) Cx hl.1 hP hS (fun o ho => c_By_add n22 (0 : Int32) ho) (fun o ho => g_By_add n22 (0 : Int32) ho) (by decide) (rfl : ob_cl[0]? = _) mv_By_add w_m_Wr_27 rfl (by decide +kernel) ⟨rfl, rfl⟩ ⟨by decide, by decide⟩ (Nat.le_of_ble_eq_true rfl) rfl d_Wr_beginEmpty_26 h (fun t26 H locs h hP hS => ?_)
  refine lv_aload_n hx hb d_Wr_beginEmpty_29 rfl (lv_at hl 0 rfl) ?_
  refine ob_getR (k := 0) Cx hP ck_4 rfl w_f_Wr_14 d_Wr_beginEmpty_30 h (fun n30 h => ?_)
  refine lv_iload_n hx hb d_Wr_beginEmpty_33 rfl (lv_at hl 2 rfl) ?_
  refine lv_bipush (v := 8) hx hb d_Wr_beginEmpty_34 (by decide) ?_
  refine lv_ishr hx hb d_Wr_beginEmpty_36 ?_
  refine ob_cVv (nA := 1) (As := [.int (v2 >>> ((8 : Int32) &&& 31))]) (rest := []) Cx hl.1 hP hS (fun o ho => c_By_add n30 (v2 >>> ((8 : Int32) &&& 31)) ho) (fun o ho => g_By_add n30 (v2 >>> ((8 : Int32) &&& 31)) ho) (by decide) (rfl : ob_cl[0]? = _) mv_By_add w_m_Wr_27 rfl (by decide +kernel) ⟨rfl, rfl⟩ ⟨by decide, by decide⟩ (Nat.le_of_ble_eq_true rfl) rfl d_Wr_beginEmpty_37 h (fun t37 H locs h hP hS => ?_)
  refine lv_aload_n hx hb d_Wr_beginEmpty_40 rfl (lv_at hl 0 rfl) ?_
  refine ob_getR (k := 0) Cx hP ck_4 rfl w_f_Wr_14 d_Wr_beginEmpty_41 h (fun n41 h => ?_)
  refine lv_iload_n hx hb d_Wr_beginEmpty_44 rfl (lv_at hl 2 rfl) ?_
  refine ob_cVv (nA := 1) (As := [.int v2]) (rest := []) Cx hl.1 hP hS (fun o ho => c_By_add n41 v2 ho) (fun o ho => g_By_add n41 v2 ho) (by decide) (rfl : ob_cl[0]? = _) mv_By_add w_m_Wr_27 rfl (by decide +kernel) ⟨rfl, rfl⟩ ⟨by decide, by decide⟩ (Nat.le_of_ble_eq_true rfl) rfl d_Wr_beginEmpty_45 h (fun t45 H locs h hP hS => ?_)
  exact ob_vret Cx hP hS d_Wr_beginEmpty_48 h
set_option maxHeartbeats 4000000 in
set_option maxRecDepth 100000 in
theorem tB_Sl_isNews_69 {p : Program} {l : Launch} {e : Env} {R : Room} {s : State} {m : MethodId} {args : Array Value} {below : List Frame} {meth : Method} {c : Code} {b : Nat} {D : va_G} {cA : Nat → ClassId} {adK adV : Nat → Nat} {out : (Int32 × ob_S)} (Cx : ob_C p R s m args meth c cb_Sl_isNews 3 "ObservedBlocks$Slot" (some .boolean) b D cA adK adV 1 20) : ∀ (t : ob_S) (H : Heap) (locs : List Loc) (ls : Array Slot), ob_H b D cA t H → va_S (ob_A b) s.heap H locs → lv_has ls 3 [] → B_Sl_isNews_69 t = some out → W p l e R s m args below meth c H locs 0 0 (MQ below (ob_Qi b D cA out) args s 0 0 (ob_A b)) (F0 m 69 ls []) := by
  have hx := Cx.1.1
  have hb := Cx.1.2.1
  intro t H locs ls  hP hS hl h
  unfold B_Sl_isNews_69 at h
  refine lv_iconst (v := 0) hx hb d_Sl_isNews_69 (by decide) ?_
  exact ob_zret Cx hP hS d_Sl_isNews_70 h
theorem g_Sl_isNews (v0 : Nat) (v1 : Nat) {t : ob_S} {out : (Int32 × ob_S)} (h : X_Sl_isNews v0 v1 t = some out) : v0 < ob_n t ∧ ob_k t v0 = 6 := by
  unfold X_Sl_isNews ob_this at h
  by_cases q : v0 < ob_n t ∧ ob_k t v0 = 6
  · exact q
  · rw [if_neg q] at h
    cases h
set_option maxHeartbeats 4000000 in
set_option maxRecDepth 100000 in
theorem c_Sl_isNews {l : Launch} {b : Nat} {D : va_G} {cA : Nat → ClassId} {adK adV : Nat → Nat} (v0 : Nat) (v1 : Nat) {t : ob_S} {out : (Int32 × ob_S)} (h : X_Sl_isNews v0 v1 t = some out) : Met l y_Sl_isNews (Cond.code y_Sl_isNews cb_Sl_isNews 3 (some .boolean) :: ob_T) { frames := 1, cells := 0, slots := 0, locals := 20 } (ob_Pre b D cA adK adV [.ref (b + v0), .ref (b + v1)] t) (ob_Qi b D cA out) 0 0 (ob_A b) := by
  refine ob_met (by decide) (Nat.le_of_ble_eq_true rfl) ?_
  intro p e R s m args below meth c ls Cx hP hS hl
  have hl : lv_has ls 3 [(0, .ref (b + v0)), (1, .ref (b + v1))] := hl
  have hx := Cx.1.1
  have hb := Cx.1.2.1
  have hg := g_Sl_isNews v0 v1 h
  unfold X_Sl_isNews ob_this at h
  rw [if_pos hg] at h
  obtain ⟨H, hH⟩ : ∃ H, H = s.heap := ⟨_, rfl⟩
  obtain ⟨locs, hL⟩ : ∃ locs : List Loc, locs = [] := ⟨_, rfl⟩
  rw [← hH] at hP
  have hS : va_S (ob_A b) s.heap H locs := by rw [hH, hL]; exact hS
  suffices hW : W p l e R s m args below meth c H locs 0 0 (MQ below (ob_Qi b D cA out) args s 0 0 (ob_A b)) (F0 m 0 ls []) by rw [hH, hL] at hW; exact hW
  refine lv_aload_n hx hb d_Sl_isNews_0 rfl (lv_at hl 1 rfl) ?_
  refine ob_getI (k := 4) Cx hP ck_8 rfl w_f_Sl_121 d_Sl_isNews_1 h (fun x1 h => ?_)
  refine lv_aload_n hx hb d_Sl_isNews_4 rfl (lv_at hl 0 rfl) ?_
  refine ob_getI (k := 12) Cx hP ck_6 rfl w_f_Sl_59 d_Sl_isNews_5 h (fun x5 h => ?_)
  refine lv_isub hx hb d_Sl_isNews_8 ?_
  refine lv_ldc (v := 65535) hx hb Cx.1.2.2.2.1 (Cx.1.2.2.2.2 _ w_const_Slot_127) d_Sl_isNews_9 ?_
  refine lv_iand hx hb d_Sl_isNews_11 ?_
  refine lv_istore_n (lv' := [(2, .int ((x1 - x5) &&& (65535 : Int32))), (0, .ref (b + v0)), (1, .ref (b + v1))]) hx hb d_Sl_isNews_12 rfl hl (by decide) rfl (fun ls hl => ?_)
  refine lv_aload_n hx hb d_Sl_isNews_13 rfl (lv_at hl 2 rfl) ?_
  refine ob_getI (k := 4) Cx hP ck_8 rfl w_f_Sl_121 d_Sl_isNews_14 h (fun x14 h => ?_)
  refine lv_iconst (v := -1) hx hb d_Sl_isNews_17 (by decide) ?_
  refine lv_icmp_eq (tgt := 69) hx hb d_Sl_isNews_18 (by decide) (fun hq => ?_) (fun hq => ?_)
  · rw [if_pos hq] at h
    exact tB_Sl_isNews_69 Cx t H locs ls hP hS (lv_sub hl [] rfl) h
  · rw [if_neg hq] at h
    refine lv_iload_n hx hb d_Sl_isNews_21 rfl (lv_at hl 0 rfl) ?_
    refine lv_iconst (v := 1) hx hb d_Sl_isNews_22 (by decide) ?_
    refine lv_icmp_lt (tgt := 69) hx hb d_Sl_isNews_23 (by decide) (fun hq => ?_) (fun hq => ?_)
    · rw [if_pos hq] at h
      exact tB_Sl_isNews_69 Cx t H locs ls hP hS (lv_sub hl [] rfl) h
    · rw [if_neg hq] at h
      refine lv_iload_n hx hb d_Sl_isNews_26 rfl (lv_at hl 0 rfl) ?_
      refine lv_sipush (v := 32767) hx hb d_Sl_isNews_27 (by decide) ?_
      refine lv_icmp_gt (tgt := 69) hx hb d_Sl_isNews_30 (by decide) (fun hq => ?_) (fun hq => ?_)
      · rw [if_pos hq] at h
        exact tB_Sl_isNews_69 Cx t H locs ls hP hS (lv_sub hl [] rfl) h
      · rw [if_neg hq] at h
        refine lv_aload_n hx hb d_Sl_isNews_33 rfl (lv_at hl 2 rfl) ?_
        refine ob_getI (k := 5) Cx hP ck_8 rfl w_f_Sl_102 d_Sl_isNews_34 h (fun x34 h => ?_)
        refine lv_iconst (v := -1) hx hb d_Sl_isNews_37 (by decide) ?_
        refine lv_icmp_eq (tgt := 69) hx hb d_Sl_isNews_38 (by decide) (fun hq => ?_) (fun hq => ?_)
        · rw [if_pos hq] at h
          exact tB_Sl_isNews_69 Cx t H locs ls hP hS (lv_sub hl [] rfl) h
        · rw [if_neg hq] at h
          refine lv_aload_n hx hb d_Sl_isNews_41 rfl (lv_at hl 2 rfl) ?_
          refine ob_getI (k := 5) Cx hP ck_8 rfl w_f_Sl_102 d_Sl_isNews_42 h (fun x42 h => ?_)
          refine ob_cNi (nA := 1) (As := [.int x42]) (rest := []) Cx hl.1 hP hS (fun o ho => c_Ob_numOf x42 ho) ms_Ob_numOf w_n_Sl_105 rfl (by decide +kernel) ⟨rfl, rfl⟩ ⟨by decide, by decide⟩ (Nat.le_of_ble_eq_true rfl) rfl d_Sl_isNews_45 h (fun x45 t45 H locs h hP hS => ?_)
          refine lv_if_ne (tgt := 69) hx hb d_Sl_isNews_48 (by decide) (fun hq => ?_) (fun hq => ?_)
          · rw [if_pos hq] at h
            exact tB_Sl_isNews_69 Cx t45 H locs ls hP hS (lv_sub hl [] rfl) h
          · rw [if_neg (fun z => z hq)] at h
            refine lv_aload_n hx hb d_Sl_isNews_51 rfl (lv_at hl 2 rfl) ?_
            refine ob_getI (k := 5) Cx hP ck_8 rfl w_f_Sl_102 d_Sl_isNews_52 h (fun x52 h => ?_)
            refine ob_cNi (nA := 1) (As := [.int x52]) (rest := []) Cx hl.1 hP hS (fun o ho => c_Ob_szxOf x52 ho) ms_Ob_szxOf w_n_Sl_108 rfl (by decide +kernel) ⟨rfl, rfl⟩ ⟨by decide, by decide⟩ (Nat.le_of_ble_eq_true rfl) rfl d_Sl_isNews_55 h (fun x55 t55 H locs h hP hS => ?_)
            refine lv_aload_n hx hb d_Sl_isNews_58 rfl (lv_at hl 1 rfl) ?_
            refine ob_getI (k := 5) Cx hP ck_6 rfl w_f_Sl_43 d_Sl_isNews_59 h (fun x59 h => ?_)
            refine lv_icmp_ne (tgt := 69) hx hb d_Sl_isNews_62 (by decide) (fun hq => ?_) (fun hq => ?_)
            · rw [if_pos hq] at h
              exact tB_Sl_isNews_69 Cx t55 H locs ls hP hS (lv_sub hl [] rfl) h
            · rw [if_neg (fun z => z hq)] at h
              refine lv_iconst (v := 1) hx hb d_Sl_isNews_65 (by decide) ?_
              refine lv_goto (tgt := 70) hx hb d_Sl_isNews_66 (by decide) ?_
              exact ob_zret Cx hP hS d_Sl_isNews_70 h
theorem g_Sl_takeNews (v0 : Nat) (v1 : Nat) {t : ob_S} {out : (Int32 × ob_S)} (h : X_Sl_takeNews v0 v1 t = some out) : v0 < ob_n t ∧ ob_k t v0 = 6 := by
  unfold X_Sl_takeNews ob_this at h
  by_cases q : v0 < ob_n t ∧ ob_k t v0 = 6
  · exact q
  · rw [if_neg q] at h
    cases h
set_option maxHeartbeats 4000000 in
set_option maxRecDepth 100000 in
theorem c_Sl_takeNews {l : Launch} {b : Nat} {D : va_G} {cA : Nat → ClassId} {adK adV : Nat → Nat} (v0 : Nat) (v1 : Nat) {t : ob_S} {out : (Int32 × ob_S)} (h : X_Sl_takeNews v0 v1 t = some out) : Met l y_Sl_takeNews (Cond.code y_Sl_takeNews cb_Sl_takeNews 2 (some .boolean) :: ob_T) { frames := 2, cells := 0, slots := 0, locals := 49 } (ob_Pre b D cA adK adV [.ref (b + v0), .ref (b + v1)] t) (ob_Qi b D cA out) 0 0 (ob_A b) := by
  refine ob_met (by decide) (Nat.le_of_ble_eq_true rfl) ?_
  intro p e R s m args below meth c ls Cx hP hS hl
  have hl : lv_has ls 2 [(0, .ref (b + v0)), (1, .ref (b + v1))] := hl
  have hx := Cx.1.1
  have hb := Cx.1.2.1
  have hg := g_Sl_takeNews v0 v1 h
  unfold X_Sl_takeNews ob_this at h
  rw [if_pos hg] at h
  obtain ⟨H, hH⟩ : ∃ H, H = s.heap := ⟨_, rfl⟩
  obtain ⟨locs, hL⟩ : ∃ locs : List Loc, locs = [] := ⟨_, rfl⟩
  rw [← hH] at hP
  have hS : va_S (ob_A b) s.heap H locs := by rw [hH, hL]; exact hS
  suffices hW : W p l e R s m args below meth c H locs 0 0 (MQ below (ob_Qi b D cA out) args s 0 0 (ob_A b)) (F0 m 0 ls []) by rw [hH, hL] at hW; exact hW
  refine lv_aload_n hx hb d_Sl_takeNews_0 rfl (lv_at hl 0 rfl) ?_
  refine ob_getR (k := 1) Cx hP ck_6 rfl w_f_Sl_23 d_Sl_takeNews_1 h (fun n1 h => ?_)
  refine ob_cVv (nA := 0) (As := []) (rest := []) Cx hl.1 hP hS (fun o ho => c_Pe_stop n1 ho) (fun o ho => g_Pe_stop n1 ho) (by decide) (rfl : ob_cl[3]? = _) mv_Pe_stop w_m_Sl_68 rfl (by decide +kernel) ⟨rfl, rfl⟩ ⟨by decide, by decide⟩ (Nat.le_of_ble_eq_true rfl) rfl d_Sl_takeNews_4 h (fun t4 H locs h hP hS => ?_)
  refine lv_aload_n hx hb d_Sl_takeNews_7 rfl (lv_at hl 0 rfl) ?_
  refine lv_aload_n hx hb d_Sl_takeNews_8 rfl (lv_at hl 1 rfl) ?_
  refine ob_getI (k := 4) Cx hP ck_8 rfl w_f_Sl_121 d_Sl_takeNews_9 h (fun x9 h => ?_)
  refine ob_putI (k := 12) Cx hP hS ck_6 rfl rfl rfl w_f_Sl_59 d_Sl_takeNews_12 h (fun t12 H locs h hP hS => ?_)
  refine lv_aload_n hx hb d_Sl_takeNews_15 rfl (lv_at hl 0 rfl) ?_
  refine ob_getR (k := 0) Cx hP ck_6 rfl w_f_Sl_14 d_Sl_takeNews_16 h (fun n16 h => ?_)
  refine lv_aload_n hx hb d_Sl_takeNews_19 rfl (lv_at hl 1 rfl) ?_
  refine ob_getR (k := 10) Cx hP ck_8 rfl w_f_Sl_111 d_Sl_takeNews_20 h (fun n20 h => ?_)
  refine ob_cVv (nA := 1) (As := [.ref (b + n20)]) (rest := []) Cx hl.1 hP hS (fun o ho => c_By_become n16 n20 ho) (fun o ho => g_By_become n16 n20 ho) (by decide) (rfl : ob_cl[0]? = _) mv_By_become w_m_Sl_128 rfl (by decide +kernel) ⟨rfl, rfl⟩ ⟨by decide, by decide⟩ (Nat.le_of_ble_eq_true rfl) rfl d_Sl_takeNews_23 h (fun t23 H locs h hP hS => ?_)
  refine lv_aload_n hx hb d_Sl_takeNews_26 rfl (lv_at hl 0 rfl) ?_
  refine lv_iconst (v := 0) hx hb d_Sl_takeNews_27 (by decide) ?_
  refine ob_putI (k := 6) Cx hP hS ck_6 rfl rfl rfl w_f_Sl_46 d_Sl_takeNews_28 h (fun t28 H locs h hP hS => ?_)
  refine lv_aload_n hx hb d_Sl_takeNews_31 rfl (lv_at hl 0 rfl) ?_
  refine lv_aload_n hx hb d_Sl_takeNews_32 rfl (lv_at hl 1 rfl) ?_
  refine ob_cVi (nA := 1) (As := [.ref (b + v1)]) (rest := []) Cx hl.1 hP hS (fun o ho => c_Sl_goOn v0 v1 ho) (fun o ho => g_Sl_goOn v0 v1 ho) (by decide) (rfl : ob_cl[6]? = _) mv_Sl_goOn w_m_Sl_124 rfl (by decide +kernel) ⟨rfl, rfl⟩ ⟨by decide, by decide⟩ (Nat.le_of_ble_eq_true rfl) rfl d_Sl_takeNews_33 h (fun x33 t33 H locs h hP hS => ?_)
  exact ob_zret Cx hP hS d_Sl_takeNews_36 h
set_option maxHeartbeats 4000000 in
set_option maxRecDepth 100000 in
theorem tB_Cl_receiveNews_29 {p : Program} {l : Launch} {e : Env} {R : Room} {s : State} {m : MethodId} {args : Array Value} {below : List Frame} {meth : Method} {c : Code} {b : Nat} {D : va_G} {cA : Nat → ClassId} {adK adV : Nat → Nat} {out : ob_S} (Cx : ob_C p R s m args meth c cb_Cl_receiveNews 4 "ObservedBlocks$Client" none b D cA adK adV 6 130) {k4 : Nat → Nat → Option Nat → Int32 → ob_S → Option ob_S} (hk4 : ∀ (t : ob_S) (H : Heap) (locs : List Loc) (ls : Array Slot) (v0 : Nat) (v1 : Nat) (v2 : Option Nat) (v3 : Int32), ob_H b D cA t H → va_S (ob_A b) s.heap H locs → lv_has ls 4 [(0, .ref (b + v0)), (1, .ref (b + v1)), (2, va_rf ((v2).map (fun q => b + q))), (3, .int v3)] → k4 v0 v1 v2 v3 t = some out → W p l e R s m args below meth c H locs 0 0 (MQ below (ob_Qv b D cA out) args s 0 0 (ob_A b)) (F0 m 4 ls [])) : ∀ (t : ob_S) (H : Heap) (locs : List Loc) (ls : Array Slot) (v0 : Nat) (v1 : Nat) (v2 : Option Nat) (v3 : Int32), ob_H b D cA t H → va_S (ob_A b) s.heap H locs → lv_has ls 4 [(0, .ref (b + v0)), (1, .ref (b + v1)), (2, va_rf ((v2).map (fun q => b + q))), (3, .int v3)] → B_Cl_receiveNews_29 k4 v0 v1 v2 v3 t = some out → W p l e R s m args below meth c H locs 0 0 (MQ below (ob_Qv b D cA out) args s 0 0 (ob_A b)) (F0 m 29 ls []) := by
  have hx := Cx.1.1
  have hb := Cx.1.2.1
  intro t H locs ls v0 v1 v2 v3 hP hS hl h
  unfold B_Cl_receiveNews_29 at h
  cases v2 with
  | none =>
    dsimp only at h
    refine lv_iinc (v := (v3 + (1 : Int32))) (lv' := [(3, .int (v3 + (1 : Int32))), (0, .ref (b + v0)), (1, .ref (b + v1)), (2, .null)]) hx hb d_Cl_receiveNews_29 hl (k := 3) rfl rfl (by decide) rfl (fun ls hl => ?_)
    refine lv_goto (tgt := 4) hx hb d_Cl_receiveNews_32 (by decide) ?_
    exact hk4 t H locs ls v0 v1 none (v3 + (1 : Int32)) hP hS (lv_sub hl [1, 2, 3, 0] rfl) h
  | some nn =>
    dsimp only at h
    refine lv_iinc (v := (v3 + (1 : Int32))) (lv' := [(3, .int (v3 + (1 : Int32))), (0, .ref (b + v0)), (1, .ref (b + v1)), (2, .ref (b + nn))]) hx hb d_Cl_receiveNews_29 hl (k := 3) rfl rfl (by decide) rfl (fun ls hl => ?_)
    refine lv_goto (tgt := 4) hx hb d_Cl_receiveNews_32 (by decide) ?_
    exact hk4 t H locs ls v0 v1 (some nn) (v3 + (1 : Int32)) hP hS (lv_sub hl [1, 2, 3, 0] rfl) h
set_option maxHeartbeats 4000000 in
set_option maxRecDepth 100000 in
theorem tB_Cl_receiveNews_48 {p : Program} {l : Launch} {e : Env} {R : Room} {s : State} {m : MethodId} {args : Array Value} {below : List Frame} {meth : Method} {c : Code} {b : Nat} {D : va_G} {cA : Nat → ClassId} {adK adV : Nat → Nat} {out : ob_S} (Cx : ob_C p R s m args meth c cb_Cl_receiveNews 4 "ObservedBlocks$Client" none b D cA adK adV 6 130) : ∀ (t : ob_S) (H : Heap) (locs : List Loc) (ls : Array Slot) (v0 : Nat) (v1 : Nat) (v2 : Option Nat) (s0 : Int32) (s1 : Nat), ob_H b D cA t H → va_S (ob_A b) s.heap H locs → lv_has ls 4 [(0, .ref (b + v0)), (1, .ref (b + v1)), (2, va_rf ((v2).map (fun q => b + q)))] → B_Cl_receiveNews_48 v0 v1 v2 s0 s1 t = some out → W p l e R s m args below meth c H locs 0 0 (MQ below (ob_Qv b D cA out) args s 0 0 (ob_A b)) (F0 m 48 ls [.int s0, .ref (b + s1)]) := by
  have hx := Cx.1.1
  have hb := Cx.1.2.1
  intro t H locs ls v0 v1 v2 s0 s1 hP hS hl h
  unfold B_Cl_receiveNews_48 at h
  cases v2 with
  | none =>
    dsimp only at h
    refine lv_aload_n hx hb d_Cl_receiveNews_48 rfl (lv_at hl 1 rfl) ?_
    refine ob_getI (k := 2) Cx hP ck_8 rfl w_f_Cl_152 d_Cl_receiveNews_49 h (fun x49 h => ?_)
    refine ob_cVv (nA := 2) (As := [.int s0, .int x49]) (rest := []) Cx hl.1 hP hS (fun o ho => c_Wr_beginEmpty s1 s0 x49 ho) (fun o ho => g_Wr_beginEmpty s1 s0 x49 ho) (by decide) (rfl : ob_cl[4]? = _) mv_Wr_beginEmpty w_m_Cl_155 rfl (by decide +kernel) ⟨rfl, rfl⟩ ⟨by decide, by decide⟩ (Nat.le_of_ble_eq_true rfl) rfl d_Cl_receiveNews_52 h (fun t52 H locs h hP hS => ?_)
    refine lv_aload_n hx hb d_Cl_receiveNews_55 rfl (lv_at hl 0 rfl) ?_
    refine ob_getR (k := 1) Cx hP ck_7 rfl w_f_Cl_20 d_Cl_receiveNews_56 h (fun n56 h => ?_)
    refine lv_aload_n hx hb d_Cl_receiveNews_59 rfl (lv_at hl 0 rfl) ?_
    refine ob_getR (k := 2) Cx hP ck_7 rfl w_f_Cl_27 d_Cl_receiveNews_60 h (fun n60 h => ?_)
    refine ob_getR (k := 0) Cx hP ck_4 rfl w_f_Cl_105 d_Cl_receiveNews_63 h (fun n63 h => ?_)
    refine lv_iconst (v := 1) hx hb d_Cl_receiveNews_66 (by decide) ?_
    refine ob_cVv (nA := 2) (As := [.ref (b + n63), .int (1 : Int32)]) (rest := []) Cx hl.1 hP hS (fun o ho => c_Li_send n56 n63 (1 : Int32) ho) (fun o ho => g_Li_send n56 n63 (1 : Int32) ho) (by decide) (rfl : ob_cl[1]? = _) mv_Li_send w_m_Cl_117 rfl (by decide +kernel) ⟨rfl, rfl⟩ ⟨by decide, by decide⟩ (Nat.le_of_ble_eq_true rfl) rfl d_Cl_receiveNews_67 h (fun t67 H locs h hP hS => ?_)
    refine lv_aload_nN hx hb d_Cl_receiveNews_70 rfl (lv_at hl 2 rfl) ?_
    refine lv_ifnullN (tgt := 95) hx hb d_Cl_receiveNews_71 (by decide) ?_
    exact ob_vret Cx hP hS d_Cl_receiveNews_95 h
  | some nn =>
    dsimp only at h
    refine lv_aload_n hx hb d_Cl_receiveNews_48 rfl (lv_at hl 1 rfl) ?_
    refine ob_getI (k := 2) Cx hP ck_8 rfl w_f_Cl_152 d_Cl_receiveNews_49 h (fun x49 h => ?_)
    refine ob_cVv (nA := 2) (As := [.int s0, .int x49]) (rest := []) Cx hl.1 hP hS (fun o ho => c_Wr_beginEmpty s1 s0 x49 ho) (fun o ho => g_Wr_beginEmpty s1 s0 x49 ho) (by decide) (rfl : ob_cl[4]? = _) mv_Wr_beginEmpty w_m_Cl_155 rfl (by decide +kernel) ⟨rfl, rfl⟩ ⟨by decide, by decide⟩ (Nat.le_of_ble_eq_true rfl) rfl d_Cl_receiveNews_52 h (fun t52 H locs h hP hS => ?_)
    refine lv_aload_n hx hb d_Cl_receiveNews_55 rfl (lv_at hl 0 rfl) ?_
    refine ob_getR (k := 1) Cx hP ck_7 rfl w_f_Cl_20 d_Cl_receiveNews_56 h (fun n56 h => ?_)
    refine lv_aload_n hx hb d_Cl_receiveNews_59 rfl (lv_at hl 0 rfl) ?_
    refine ob_getR (k := 2) Cx hP ck_7 rfl w_f_Cl_27 d_Cl_receiveNews_60 h (fun n60 h => ?_)
    refine ob_getR (k := 0) Cx hP ck_4 rfl w_f_Cl_105 d_Cl_receiveNews_63 h (fun n63 h => ?_)
    refine lv_iconst (v := 1) hx hb d_Cl_receiveNews_66 (by decide) ?_
    refine ob_cVv (nA := 2) (As := [.ref (b + n63), .int (1 : Int32)]) (rest := []) Cx hl.1 hP hS (fun o ho => c_Li_send n56 n63 (1 : Int32) ho) (fun o ho => g_Li_send n56 n63 (1 : Int32) ho) (by decide) (rfl : ob_cl[1]? = _) mv_Li_send w_m_Cl_117 rfl (by decide +kernel) ⟨rfl, rfl⟩ ⟨by decide, by decide⟩ (Nat.le_of_ble_eq_true rfl) rfl d_Cl_receiveNews_67 h (fun t67 H locs h hP hS => ?_)
    refine lv_aload_n hx hb d_Cl_receiveNews_70 rfl (lv_at hl 2 rfl) ?_
    refine lv_ifnull hx hb d_Cl_receiveNews_71 ?_
    refine lv_aload_n hx hb d_Cl_receiveNews_74 rfl (lv_at hl 2 rfl) ?_
    refine lv_aload_n hx hb d_Cl_receiveNews_75 rfl (lv_at hl 1 rfl) ?_
    refine ob_cVi (nA := 1) (As := [.ref (b + v1)]) (rest := []) Cx hl.1 hP hS (fun o ho => c_Sl_isNews nn v1 ho) (fun o ho => g_Sl_isNews nn v1 ho) (by decide) (rfl : ob_cl[6]? = _) mv_Sl_isNews w_m_Cl_158 rfl (by decide +kernel) ⟨rfl, rfl⟩ ⟨by decide, by decide⟩ (Nat.le_of_ble_eq_true rfl) rfl d_Cl_receiveNews_76 h (fun x76 t76 H locs h hP hS => ?_)
    refine lv_if_eq (tgt := 95) hx hb d_Cl_receiveNews_79 (by decide) (fun hq => ?_) (fun hq => ?_)
    · rw [if_pos hq] at h
      exact ob_vret Cx hP hS d_Cl_receiveNews_95 h
    · rw [if_neg hq] at h
      refine lv_aload_n hx hb d_Cl_receiveNews_82 rfl (lv_at hl 2 rfl) ?_
      refine lv_aload_n hx hb d_Cl_receiveNews_83 rfl (lv_at hl 1 rfl) ?_
      refine ob_cVi (nA := 1) (As := [.ref (b + v1)]) (rest := []) Cx hl.1 hP hS (fun o ho => c_Sl_takeNews nn v1 ho) (fun o ho => g_Sl_takeNews nn v1 ho) (by decide) (rfl : ob_cl[6]? = _) mv_Sl_takeNews w_m_Cl_161 rfl (by decide +kernel) ⟨rfl, rfl⟩ ⟨by decide, by decide⟩ (Nat.le_of_ble_eq_true rfl) rfl d_Cl_receiveNews_84 h (fun x84 t84 H locs h hP hS => ?_)
      refine lv_if_eq (tgt := 95) hx hb d_Cl_receiveNews_87 (by decide) (fun hq => ?_) (fun hq => ?_)
      · rw [if_pos hq] at h
        exact ob_vret Cx hP hS d_Cl_receiveNews_95 h
      · rw [if_neg hq] at h
        refine lv_aload_n hx hb d_Cl_receiveNews_90 rfl (lv_at hl 0 rfl) ?_
        refine lv_aload_n hx hb d_Cl_receiveNews_91 rfl (lv_at hl 2 rfl) ?_
        refine ob_cVv (nA := 1) (As := [.ref (b + nn)]) (rest := []) Cx hl.1 hP hS (fun o ho => c_Cl_ask v0 nn ho) (fun o ho => g_Cl_ask v0 nn ho) (by decide) (rfl : ob_cl[7]? = _) mv_Cl_ask w_m_Cl_145 rfl (by decide +kernel) ⟨rfl, rfl⟩ ⟨by decide, by decide⟩ (Nat.le_of_ble_eq_true rfl) rfl d_Cl_receiveNews_92 h (fun t92 H locs h hP hS => ?_)
        exact ob_vret Cx hP hS d_Cl_receiveNews_95 h
set_option maxHeartbeats 4000000 in
set_option maxRecDepth 100000 in
theorem tB_Cl_receiveNews_4 {p : Program} {l : Launch} {e : Env} {R : Room} {s : State} {m : MethodId} {args : Array Value} {below : List Frame} {meth : Method} {c : Code} {b : Nat} {D : va_G} {cA : Nat → ClassId} {adK adV : Nat → Nat} {out : ob_S} (Cx : ob_C p R s m args meth c cb_Cl_receiveNews 4 "ObservedBlocks$Client" none b D cA adK adV 6 130) : ∀ (fu : Nat), ∀ (t : ob_S) (H : Heap) (locs : List Loc) (ls : Array Slot) (v0 : Nat) (v1 : Nat) (v2 : Option Nat) (v3 : Int32), ob_H b D cA t H → va_S (ob_A b) s.heap H locs → lv_has ls 4 [(0, .ref (b + v0)), (1, .ref (b + v1)), (2, va_rf ((v2).map (fun q => b + q))), (3, .int v3)] → B_Cl_receiveNews_4 fu v0 v1 v2 v3 t = some out → W p l e R s m args below meth c H locs 0 0 (MQ below (ob_Qv b D cA out) args s 0 0 (ob_A b)) (F0 m 4 ls []) := by
  have hx := Cx.1.1
  have hb := Cx.1.2.1
  intro fu
  induction fu with
  | zero =>
    intro t H locs ls v0 v1 v2 v3 hP hS hl h
    cases h
  | succ fu ih =>
    intro t H locs ls v0 v1 v2 v3 hP hS hl h
    cases v2 with
    | none =>
      rw [B_Cl_receiveNews_4] at h
      refine lv_iload_n hx hb d_Cl_receiveNews_4 rfl (lv_at hl 3 rfl) ?_
      refine lv_iconst (v := 2) hx hb d_Cl_receiveNews_5 (by decide) ?_
      refine lv_icmp_ge (tgt := 35) hx hb d_Cl_receiveNews_6 (by decide) (fun hq => ?_) (fun hq => ?_)
      · rw [if_pos hq] at h
        refine lv_aload_n hx hb d_Cl_receiveNews_35 rfl (lv_at hl 0 rfl) ?_
        refine ob_getR (k := 2) Cx hP ck_7 rfl w_f_Cl_27 d_Cl_receiveNews_36 h (fun n36 h => ?_)
        refine lv_aload_nN hx hb d_Cl_receiveNews_39 rfl (lv_at hl 2 rfl) ?_
        refine lv_ifnonnullN hx hb d_Cl_receiveNews_40 ?_
        refine lv_iconst (v := 3) hx hb d_Cl_receiveNews_43 (by decide) ?_
        refine lv_goto (tgt := 48) hx hb d_Cl_receiveNews_44 (by decide) ?_
        exact tB_Cl_receiveNews_48 Cx t H locs ls v0 v1 none (3 : Int32) n36 hP hS (lv_sub hl [0, 1, 2] rfl) h
      · rw [if_neg hq] at h
        refine lv_aload_n hx hb d_Cl_receiveNews_9 rfl (lv_at hl 0 rfl) ?_
        refine ob_getR (k := 0) Cx hP ck_7 rfl w_f_Cl_11 d_Cl_receiveNews_10 h (fun n10 h => ?_)
        refine lv_iload_n hx hb d_Cl_receiveNews_13 rfl (lv_at hl 3 rfl) ?_
        refine ob_aldR (kd := 15) Cx hP (by decide) rfl d_Cl_receiveNews_14 h (fun n14 h => ?_)
        refine lv_aload_n hx hb d_Cl_receiveNews_15 rfl (lv_at hl 1 rfl) ?_
        refine ob_cVi (nA := 1) (As := [.ref (b + v1)]) (rest := []) Cx hl.1 hP hS (fun o ho => c_Sl_isWatchedFor n14 v1 ho) (fun o ho => g_Sl_isWatchedFor n14 v1 ho) (by decide) (rfl : ob_cl[6]? = _) mv_Sl_isWatchedFor w_m_Cl_149 rfl (by decide +kernel) ⟨rfl, rfl⟩ ⟨by decide, by decide⟩ (Nat.le_of_ble_eq_true rfl) rfl d_Cl_receiveNews_16 h (fun x16 t16 H locs h hP hS => ?_)
        refine lv_if_eq (tgt := 29) hx hb d_Cl_receiveNews_19 (by decide) (fun hq => ?_) (fun hq => ?_)
        · rw [if_pos hq] at h
          exact tB_Cl_receiveNews_29 Cx ih t16 H locs ls v0 v1 none v3 hP hS (lv_sub hl [0, 1, 2, 3] rfl) h
        · rw [if_neg hq] at h
          refine lv_aload_n hx hb d_Cl_receiveNews_22 rfl (lv_at hl 0 rfl) ?_
          refine ob_getR (k := 0) Cx hP ck_7 rfl w_f_Cl_11 d_Cl_receiveNews_23 h (fun n23 h => ?_)
          refine lv_iload_n hx hb d_Cl_receiveNews_26 rfl (lv_at hl 3 rfl) ?_
          refine ob_aldR (kd := 15) Cx hP (by decide) rfl d_Cl_receiveNews_27 h (fun n27 h => ?_)
          refine lv_astore_n (lv' := [(2, .ref (b + n27)), (0, .ref (b + v0)), (1, .ref (b + v1)), (3, .int v3)]) hx hb d_Cl_receiveNews_28 rfl hl (by decide) rfl (fun ls hl => ?_)
          exact tB_Cl_receiveNews_29 Cx ih t16 H locs ls v0 v1 (some n27) v3 hP hS (lv_sub hl [1, 2, 0, 3] rfl) h
    | some nn =>
      rw [B_Cl_receiveNews_4] at h
      refine lv_iload_n hx hb d_Cl_receiveNews_4 rfl (lv_at hl 3 rfl) ?_
      refine lv_iconst (v := 2) hx hb d_Cl_receiveNews_5 (by decide) ?_
      refine lv_icmp_ge (tgt := 35) hx hb d_Cl_receiveNews_6 (by decide) (fun hq => ?_) (fun hq => ?_)
      · rw [if_pos hq] at h
        refine lv_aload_n hx hb d_Cl_receiveNews_35 rfl (lv_at hl 0 rfl) ?_
        refine ob_getR (k := 2) Cx hP ck_7 rfl w_f_Cl_27 d_Cl_receiveNews_36 h (fun n36 h => ?_)
        refine lv_aload_n hx hb d_Cl_receiveNews_39 rfl (lv_at hl 2 rfl) ?_
        refine lv_ifnonnull (tgt := 47) hx hb d_Cl_receiveNews_40 (by decide) ?_
        refine lv_iconst (v := 2) hx hb d_Cl_receiveNews_47 (by decide) ?_
        exact tB_Cl_receiveNews_48 Cx t H locs ls v0 v1 (some nn) (2 : Int32) n36 hP hS (lv_sub hl [0, 1, 2] rfl) h
      · rw [if_neg hq] at h
        refine lv_aload_n hx hb d_Cl_receiveNews_9 rfl (lv_at hl 0 rfl) ?_
        refine ob_getR (k := 0) Cx hP ck_7 rfl w_f_Cl_11 d_Cl_receiveNews_10 h (fun n10 h => ?_)
        refine lv_iload_n hx hb d_Cl_receiveNews_13 rfl (lv_at hl 3 rfl) ?_
        refine ob_aldR (kd := 15) Cx hP (by decide) rfl d_Cl_receiveNews_14 h (fun n14 h => ?_)
        refine lv_aload_n hx hb d_Cl_receiveNews_15 rfl (lv_at hl 1 rfl) ?_
        refine ob_cVi (nA := 1) (As := [.ref (b + v1)]) (rest := []) Cx hl.1 hP hS (fun o ho => c_Sl_isWatchedFor n14 v1 ho) (fun o ho => g_Sl_isWatchedFor n14 v1 ho) (by decide) (rfl : ob_cl[6]? = _) mv_Sl_isWatchedFor w_m_Cl_149 rfl (by decide +kernel) ⟨rfl, rfl⟩ ⟨by decide, by decide⟩ (Nat.le_of_ble_eq_true rfl) rfl d_Cl_receiveNews_16 h (fun x16 t16 H locs h hP hS => ?_)
        refine lv_if_eq (tgt := 29) hx hb d_Cl_receiveNews_19 (by decide) (fun hq => ?_) (fun hq => ?_)
        · rw [if_pos hq] at h
          exact tB_Cl_receiveNews_29 Cx ih t16 H locs ls v0 v1 (some nn) v3 hP hS (lv_sub hl [0, 1, 2, 3] rfl) h
        · rw [if_neg hq] at h
          refine lv_aload_n hx hb d_Cl_receiveNews_22 rfl (lv_at hl 0 rfl) ?_
          refine ob_getR (k := 0) Cx hP ck_7 rfl w_f_Cl_11 d_Cl_receiveNews_23 h (fun n23 h => ?_)
          refine lv_iload_n hx hb d_Cl_receiveNews_26 rfl (lv_at hl 3 rfl) ?_
          refine ob_aldR (kd := 15) Cx hP (by decide) rfl d_Cl_receiveNews_27 h (fun n27 h => ?_)
          refine lv_astore_n (lv' := [(2, .ref (b + n27)), (0, .ref (b + v0)), (1, .ref (b + v1)), (3, .int v3)]) hx hb d_Cl_receiveNews_28 rfl hl (by decide) rfl (fun ls hl => ?_)
          exact tB_Cl_receiveNews_29 Cx ih t16 H locs ls v0 v1 (some n27) v3 hP hS (lv_sub hl [1, 2, 0, 3] rfl) h
theorem g_Cl_receiveNews (v0 : Nat) (v1 : Nat) {t : ob_S} {out : ob_S} (h : X_Cl_receiveNews v0 v1 t = some out) : v0 < ob_n t ∧ ob_k t v0 = 7 := by
  unfold X_Cl_receiveNews ob_this at h
  by_cases q : v0 < ob_n t ∧ ob_k t v0 = 7
  · exact q
  · rw [if_neg q] at h
    cases h
set_option maxHeartbeats 4000000 in
set_option maxRecDepth 100000 in
theorem c_Cl_receiveNews {l : Launch} {b : Nat} {D : va_G} {cA : Nat → ClassId} {adK adV : Nat → Nat} (v0 : Nat) (v1 : Nat) {t : ob_S} {out : ob_S} (h : X_Cl_receiveNews v0 v1 t = some out) : Met l y_Cl_receiveNews (Cond.code y_Cl_receiveNews cb_Cl_receiveNews 4 none :: ob_T) { frames := 6, cells := 0, slots := 0, locals := 130 } (ob_Pre b D cA adK adV [.ref (b + v0), .ref (b + v1)] t) (ob_Qv b D cA out) 0 0 (ob_A b) := by
  refine ob_met (by decide) (Nat.le_of_ble_eq_true rfl) ?_
  intro p e R s m args below meth c ls Cx hP hS hl
  have hl : lv_has ls 4 [(0, .ref (b + v0)), (1, .ref (b + v1))] := hl
  have hx := Cx.1.1
  have hb := Cx.1.2.1
  have hg := g_Cl_receiveNews v0 v1 h
  unfold X_Cl_receiveNews ob_this at h
  rw [if_pos hg] at h
  obtain ⟨H, hH⟩ : ∃ H, H = s.heap := ⟨_, rfl⟩
  obtain ⟨locs, hL⟩ : ∃ locs : List Loc, locs = [] := ⟨_, rfl⟩
  rw [← hH] at hP
  have hS : va_S (ob_A b) s.heap H locs := by rw [hH, hL]; exact hS
  suffices hW : W p l e R s m args below meth c H locs 0 0 (MQ below (ob_Qv b D cA out) args s 0 0 (ob_A b)) (F0 m 0 ls []) by rw [hH, hL] at hW; exact hW
  refine lv_null hx hb d_Cl_receiveNews_0 ?_
  refine lv_astore_nN (lv' := [(2, .null), (0, .ref (b + v0)), (1, .ref (b + v1))]) hx hb d_Cl_receiveNews_1 rfl hl (by decide) rfl (fun ls hl => ?_)
  refine lv_iconst (v := 0) hx hb d_Cl_receiveNews_2 (by decide) ?_
  refine lv_istore_n (lv' := [(3, .int (0 : Int32)), (2, .null), (0, .ref (b + v0)), (1, .ref (b + v1))]) hx hb d_Cl_receiveNews_3 rfl hl (by decide) rfl (fun ls hl => ?_)
  exact tB_Cl_receiveNews_4 Cx ob_fu t H locs ls v0 v1 none (0 : Int32) hP hS (lv_sub hl [2, 3, 1, 0] rfl) h

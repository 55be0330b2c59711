theorem g_Mo_free (v0 : Nat) (v1 : Int32) {t : ob_S} {out : (Int32 × ob_S)} (h : X_Mo_free v0 v1 t = some out) : v0 < ob_n t ∧ ob_k t v0 = 11 := by
  unfold X_Mo_free ob_this at h
  by_cases q : v0 < ob_n t ∧ ob_k t v0 = 11
  · exact q
  · rw [if_neg q] at h
    cases h
set_option maxHeartbeats 4000000 in
set_option maxRecDepth 100000 in
theorem c_Mo_free {l : Launch} {b : Nat} {D : va_G} {cA : Nat → ClassId} {adK adV : Nat → Nat} (v0 : Nat) (v1 : Int32) {t : ob_S} {out : (Int32 × ob_S)} (h : X_Mo_free v0 v1 t = some out) : Met l y_Mo_free (Cond.code y_Mo_free cb_Mo_free 2 (some .int) :: ob_T) { frames := 1, cells := 0, slots := 0, locals := 20 } (ob_Pre b D cA adK adV [.ref (b + v0), .int v1] t) (ob_Qi b D cA out) 0 0 (ob_A b) := by
  refine ob_met (by decide) (Nat.le_of_ble_eq_true rfl) ?_
  intro p e R s m args below meth c ls Cx hP hS hl
  have hl : lv_has ls 2 [(0, .ref (b + v0)), (1, .int v1)] := hl
  have hx := Cx.1.1
  have hb := Cx.1.2.1
  have hg := g_Mo_free v0 v1 h
  unfold X_Mo_free ob_this at h
  rw [if_pos hg] at h
  obtain ⟨H, hH⟩ : ∃ H, H = s.heap := ⟨_, rfl⟩
  obtain ⟨locs, hL⟩ : ∃ locs : List Loc, locs = [] := ⟨_, rfl⟩
  rw [← hH] at hP
  have hS : va_S (ob_A b) s.heap H locs := by rw [hH, hL]; exact hS
  suffices hW : W p l e R s m args below meth c H locs 0 0 (MQ below (ob_Qi b D cA out) args s 0 0 (ob_A b)) (F0 m 0 ls []) by rw [hH, hL] at hW; exact hW
  refine lv_iload_n hx hb d_Mo_free_0 rfl (lv_at hl 1 rfl) ?_
  refine ob_cSi (nA := 1) (As := [.int v1]) (rest := []) Cx hl.1 hP hS (fun o ho => c_Mo_isSlot v1 ho) ms_Mo_isSlot w_m_Mo_297 rfl (by decide +kernel) ⟨rfl, rfl⟩ ⟨by decide, by decide⟩ (Nat.le_of_ble_eq_true rfl) rfl d_Mo_free_1 h (fun x1 t1 H locs h hP hS => ?_)
  refine lv_if_ne (tgt := 9) hx hb d_Mo_free_4 (by decide) (fun hq => ?_) (fun hq => ?_)
  · rw [if_pos hq] at h
    refine lv_aload_n hx hb d_Mo_free_9 rfl (lv_at hl 0 rfl) ?_
    refine ob_getR (k := 14) Cx hP ck_11 rfl w_f_Mo_48 d_Mo_free_10 h (fun n10 h => ?_)
    refine lv_iload_n hx hb d_Mo_free_13 rfl (lv_at hl 1 rfl) ?_
    refine ob_aldI Cx hP d_Mo_free_14 h (fun x14 h => ?_)
    refine lv_if_ne (tgt := 21) hx hb d_Mo_free_15 (by decide) (fun hq => ?_) (fun hq => ?_)
    · rw [if_pos hq] at h
      refine lv_aload_n hx hb d_Mo_free_21 rfl (lv_at hl 0 rfl) ?_
      refine ob_getR (k := 14) Cx hP ck_11 rfl w_f_Mo_48 d_Mo_free_22 h (fun n22 h => ?_)
      refine lv_iload_n hx hb d_Mo_free_25 rfl (lv_at hl 1 rfl) ?_
      refine lv_iconst (v := 0) hx hb d_Mo_free_26 (by decide) ?_
      refine ob_astI Cx hP hS d_Mo_free_27 h (fun t27 H locs h hP hS => ?_)
      refine lv_aload_n hx hb d_Mo_free_28 rfl (lv_at hl 0 rfl) ?_
      refine ob_getR (k := 7) Cx hP ck_11 rfl w_f_Mo_26 d_Mo_free_29 h (fun n29 h => ?_)
      refine lv_iload_n hx hb d_Mo_free_32 rfl (lv_at hl 1 rfl) ?_
      refine lv_iconst (v := 0) hx hb d_Mo_free_33 (by decide) ?_
      refine ob_astZ Cx hP hS d_Mo_free_34 h (fun t34 H locs h hP hS => ?_)
      refine lv_aload_n hx hb d_Mo_free_35 rfl (lv_at hl 0 rfl) ?_
      refine ob_getR (k := 22) Cx hP ck_11 rfl w_f_Mo_72 d_Mo_free_36 h (fun n36 h => ?_)
      refine lv_iload_n hx hb d_Mo_free_39 rfl (lv_at hl 1 rfl) ?_
      refine lv_iconst (v := 0) hx hb d_Mo_free_40 (by decide) ?_
      refine ob_astZ Cx hP hS d_Mo_free_41 h (fun t41 H locs h hP hS => ?_)
      refine lv_iconst (v := 0) hx hb d_Mo_free_42 (by decide) ?_
      exact ob_iret Cx hP hS d_Mo_free_43 h
    · rw [if_neg (fun z => z hq)] at h
      refine lv_bipush (v := -2) hx hb d_Mo_free_18 (by decide) ?_
      exact ob_iret Cx hP hS d_Mo_free_20 h
  · rw [if_neg (fun z => z hq)] at h
    refine lv_iconst (v := -1) hx hb d_Mo_free_7 (by decide) ?_
    exact ob_iret Cx hP hS d_Mo_free_8 h
set_option maxHeartbeats 4000000 in
set_option maxRecDepth 100000 in
theorem tB_Mo_change_19 {p : Program} {l : Launch} {e : Env} {R : Room} {s : State} {m : MethodId} {args : Array Value} {below : List Frame} {meth : Method} {c : Code} {b : Nat} {D : va_G} {cA : Nat → ClassId} {adK adV : Nat → Nat} {out : (Int32 × ob_S)} (Cx : ob_C p R s m args meth c cb_Mo_change 5 "ObservedBlocksModel" (some .int) b D cA adK adV 5 113) : ∀ (t : ob_S) (H : Heap) (locs : List Loc) (ls : Array Slot), ob_H b D cA t H → va_S (ob_A b) s.heap H locs → lv_has ls 5 [] → B_Mo_change_19 t = some out → W p l e R s m args below meth c H locs 0 0 (MQ below (ob_Qi b D cA out) args s 0 0 (ob_A b)) (F0 m 19 ls []) := by
  have hx := Cx.1.1
  have hb := Cx.1.2.1
  intro t H locs ls  hP hS hl h
  unfold B_Mo_change_19 at h
  refine lv_iconst (v := -1) hx hb d_Mo_change_19 (by decide) ?_
  exact ob_iret Cx hP hS d_Mo_change_20 h
set_option maxHeartbeats 4000000 in
set_option maxRecDepth 100000 in
theorem tB_Mo_change_24 {p : Program} {l : Launch} {e : Env} {R : Room} {s : State} {m : MethodId} {args : Array Value} {below : List Frame} {meth : Method} {c : Code} {b : Nat} {D : va_G} {cA : Nat → ClassId} {adK adV : Nat → Nat} {out : (Int32 × ob_S)} (Cx : ob_C p R s m args meth c cb_Mo_change 5 "ObservedBlocksModel" (some .int) b D cA adK adV 5 113) : ∀ (fu : Nat), ∀ (t : ob_S) (H : Heap) (locs : List Loc) (ls : Array Slot) (v0 : Nat) (v1 : Int32) (v2 : Int32) (v3 : Int32) (v4 : Int32), ob_H b D cA t H → va_S (ob_A b) s.heap H locs → lv_has ls 5 [(0, .ref (b + v0)), (1, .int v1), (2, .int v2), (3, .int v3), (4, .int v4)] → B_Mo_change_24 fu v0 v1 v2 v3 v4 t = some out → W p l e R s m args below meth c H locs 0 0 (MQ below (ob_Qi b D cA out) args s 0 0 (ob_A b)) (F0 m 24 ls []) := by
  have hx := Cx.1.1
  have hb := Cx.1.2.1
  intro fu
  induction fu with
  | zero =>
    intro t H locs ls v0 v1 v2 v3 v4 hP hS hl h
    cases h
  | succ fu ih =>
    intro t H locs ls v0 v1 v2 v3 v4 hP hS hl h
    rw [B_Mo_change_24] at h
    refine lv_iload hx hb d_Mo_change_24 (lv_at hl 4 rfl) ?_
    refine lv_iload_n hx hb d_Mo_change_26 rfl (lv_at hl 2 rfl) ?_
    refine lv_icmp_ge (tgt := 58) hx hb d_Mo_change_27 (by decide) (fun hq => ?_) (fun hq => ?_)
    · rw [if_pos hq] at h
      refine lv_aload_n hx hb d_Mo_change_58 rfl (lv_at hl 0 rfl) ?_
      refine ob_getR (k := 29) Cx hP ck_11 rfl w_f_Mo_93 d_Mo_change_59 h (fun n59 h => ?_)
      refine lv_iload_n hx hb d_Mo_change_62 rfl (lv_at hl 1 rfl) ?_
      refine lv_iload_n hx hb d_Mo_change_63 rfl (lv_at hl 2 rfl) ?_
      refine ob_astI Cx hP hS d_Mo_change_64 h (fun t64 H locs h hP hS => ?_)
      refine lv_aload_n hx hb d_Mo_change_65 rfl (lv_at hl 0 rfl) ?_
      refine lv_iload_n hx hb d_Mo_change_66 rfl (lv_at hl 1 rfl) ?_
      refine ob_cVv (nA := 1) (As := [.int v1]) (rest := []) Cx hl.1 hP hS (fun o ho => c_Mo_tellAll v0 v1 ho) (fun o ho => g_Mo_tellAll v0 v1 ho) (by decide) (rfl : ob_cl[11]? = _) mv_Mo_tellAll w_m_Mo_263 rfl (by decide +kernel) ⟨rfl, rfl⟩ ⟨by decide, by decide⟩ (Nat.le_of_ble_eq_true rfl) rfl d_Mo_change_67 h (fun t67 H locs h hP hS => ?_)
      refine lv_iconst (v := 0) hx hb d_Mo_change_70 (by decide) ?_
      exact ob_iret Cx hP hS d_Mo_change_71 h
    · rw [if_neg hq] at h
      refine lv_aload_n hx hb d_Mo_change_30 rfl (lv_at hl 0 rfl) ?_
      refine ob_getR (k := 28) Cx hP ck_11 rfl w_f_Mo_90 d_Mo_change_31 h (fun n31 h => ?_)
      refine lv_bipush (v := 64) hx hb d_Mo_change_34 (by decide) ?_
      refine lv_iload_n hx hb d_Mo_change_36 rfl (lv_at hl 1 rfl) ?_
      refine lv_imul hx hb d_Mo_change_37 ?_
      refine lv_iload hx hb d_Mo_change_38 (lv_at hl 4 rfl) ?_
      refine lv_iadd hx hb d_Mo_change_40 ?_
      refine lv_iload_n hx hb d_Mo_change_41 rfl (lv_at hl 3 rfl) ?_
      refine lv_iconst (v := 5) hx hb d_Mo_change_42 (by decide) ?_
      refine lv_iload hx hb d_Mo_change_43 (lv_at hl 4 rfl) ?_
      refine lv_imul hx hb d_Mo_change_45 ?_
      refine lv_iadd hx hb d_Mo_change_46 ?_
      refine lv_sipush (v := 255) hx hb d_Mo_change_47 (by decide) ?_
      refine lv_iand hx hb d_Mo_change_50 ?_
      refine ob_astI Cx hP hS d_Mo_change_51 h (fun t51 H locs h hP hS => ?_)
      refine lv_iinc (v := (v4 + (1 : Int32))) (lv' := [(4, .int (v4 + (1 : Int32))), (0, .ref (b + v0)), (1, .int v1), (2, .int v2), (3, .int v3)]) hx hb d_Mo_change_52 hl (k := 4) rfl rfl (by decide) rfl (fun ls hl => ?_)
      refine lv_goto (tgt := 24) hx hb d_Mo_change_55 (by decide) ?_
      exact ih t51 H locs ls v0 v1 v2 v3 (v4 + (1 : Int32)) hP hS (lv_sub hl [1, 2, 3, 4, 0] rfl) h
theorem g_Mo_change (v0 : Nat) (v1 : Int32) (v2 : Int32) (v3 : Int32) {t : ob_S} {out : (Int32 × ob_S)} (h : X_Mo_change v0 v1 v2 v3 t = some out) : v0 < ob_n t ∧ ob_k t v0 = 11 := by
  unfold X_Mo_change ob_this at h
  by_cases q : v0 < ob_n t ∧ ob_k t v0 = 11
  · exact q
  · rw [if_neg q] at h
    cases h
set_option maxHeartbeats 4000000 in
set_option maxRecDepth 100000 in
theorem c_Mo_change {l : Launch} {b : Nat} {D : va_G} {cA : Nat → ClassId} {adK adV : Nat → Nat} (v0 : Nat) (v1 : Int32) (v2 : Int32) (v3 : Int32) {t : ob_S} {out : (Int32 × ob_S)} (h : X_Mo_change v0 v1 v2 v3 t = some out) : Met l y_Mo_change (Cond.code y_Mo_change cb_Mo_change 5 (some .int) :: ob_T) { frames := 5, cells := 0, slots := 0, locals := 113 } (ob_Pre b D cA adK adV [.ref (b + v0), .int v1, .int v2, .int v3] t) (ob_Qi b D cA out) 0 0 (ob_A b) := by
  refine ob_met (by decide) (Nat.le_of_ble_eq_true rfl) ?_
  intro p e R s m args below meth c ls Cx hP hS hl
  have hl : lv_has ls 5 [(0, .ref (b + v0)), (1, .int v1), (2, .int v2), (3, .int v3)] := hl
  have hx := Cx.1.1
  have hb := Cx.1.2.1
  have hg := g_Mo_change v0 v1 v2 v3 h
  unfold X_Mo_change ob_this at h
  rw [if_pos hg] at h
  obtain ⟨H, hH⟩ : ∃ H, H = s.heap := ⟨_, rfl⟩
  obtain ⟨locs, hL⟩ : ∃ locs : List Loc, locs = [] := ⟨_, rfl⟩
  rw [← hH] at hP
  have hS : va_S (ob_A b) s.heap H locs := by rw [hH, hL]; exact hS
  suffices hW : W p l e R s m args below meth c H locs 0 0 (MQ below (ob_Qi b D cA out) args s 0 0 (ob_A b)) (F0 m 0 ls []) by rw [hH, hL] at hW; exact hW
  refine lv_iload_n hx hb d_Mo_change_0 rfl (lv_at hl 1 rfl) ?_
  refine lv_if_lt (tgt := 19) hx hb d_Mo_change_1 (by decide) (fun hq => ?_) (fun hq => ?_)
  · rw [if_pos hq] at h
    exact tB_Mo_change_19 Cx t H locs ls hP hS (lv_sub hl [] rfl) h
  · rw [if_neg hq] at h
    refine lv_iload_n hx hb d_Mo_change_4 rfl (lv_at hl 1 rfl) ?_
    refine lv_iconst (v := 3) hx hb d_Mo_change_5 (by decide) ?_
    refine lv_icmp_gt (tgt := 19) hx hb d_Mo_change_6 (by decide) (fun hq => ?_) (fun hq => ?_)
    · rw [if_pos hq] at h
      exact tB_Mo_change_19 Cx t H locs ls hP hS (lv_sub hl [] rfl) h
    · rw [if_neg hq] at h
      refine lv_iload_n hx hb d_Mo_change_9 rfl (lv_at hl 2 rfl) ?_
      refine lv_if_lt (tgt := 19) hx hb d_Mo_change_10 (by decide) (fun hq => ?_) (fun hq => ?_)
      · rw [if_pos hq] at h
        exact tB_Mo_change_19 Cx t H locs ls hP hS (lv_sub hl [] rfl) h
      · rw [if_neg hq] at h
        refine lv_iload_n hx hb d_Mo_change_13 rfl (lv_at hl 2 rfl) ?_
        refine lv_bipush (v := 64) hx hb d_Mo_change_14 (by decide) ?_
        refine lv_icmp_le (tgt := 21) hx hb d_Mo_change_16 (by decide) (fun hq => ?_) (fun hq => ?_)
        · rw [if_pos hq] at h
          refine lv_iconst (v := 0) hx hb d_Mo_change_21 (by decide) ?_
          refine lv_istore (lv' := [(4, .int (0 : Int32)), (0, .ref (b + v0)), (1, .int v1), (2, .int v2), (3, .int v3)]) hx hb d_Mo_change_22 hl (by decide) rfl (fun ls hl => ?_)
          exact tB_Mo_change_24 Cx ob_fu t H locs ls v0 v1 v2 v3 (0 : Int32) hP hS (lv_sub hl [1, 2, 3, 4, 0] rfl) h
        · rw [if_neg hq] at h
          exact tB_Mo_change_19 Cx t H locs ls hP hS (lv_sub hl [] rfl) h
theorem g_Mo_wears (v0 : Nat) (v1 : Int32) {t : ob_S} {out : (Int32 × ob_S)} (h : X_Mo_wears v0 v1 t = some out) : v0 < ob_n t ∧ ob_k t v0 = 11 := by
  unfold X_Mo_wears ob_this at h
  by_cases q : v0 < ob_n t ∧ ob_k t v0 = 11
  · exact q
  · rw [if_neg q] at h
    cases h
set_option maxHeartbeats 4000000 in
set_option maxRecDepth 100000 in
theorem c_Mo_wears {l : Launch} {b : Nat} {D : va_G} {cA : Nat → ClassId} {adK adV : Nat → Nat} (v0 : Nat) (v1 : Int32) {t : ob_S} {out : (Int32 × ob_S)} (h : X_Mo_wears v0 v1 t = some out) : Met l y_Mo_wears (Cond.code y_Mo_wears cb_Mo_wears 2 (some .boolean) :: ob_T) { frames := 2, cells := 0, slots := 0, locals := 44 } (ob_Pre b D cA adK adV [.ref (b + v0), .int v1] t) (ob_Qi b D cA out) 0 0 (ob_A b) := by
  refine ob_met (by decide) (Nat.le_of_ble_eq_true rfl) ?_
  intro p e R s m args below meth c ls Cx hP hS hl
  have hl : lv_has ls 2 [(0, .ref (b + v0)), (1, .int v1)] := hl
  have hx := Cx.1.1
  have hb := Cx.1.2.1
  have hg := g_Mo_wears v0 v1 h
  unfold X_Mo_wears ob_this at h
  rw [if_pos hg] at h
  obtain ⟨H, hH⟩ : ∃ H, H = s.heap := ⟨_, rfl⟩
  obtain ⟨locs, hL⟩ : ∃ locs : List Loc, locs = [] := ⟨_, rfl⟩
  rw [← hH] at hP
  have hS : va_S (ob_A b) s.heap H locs := by rw [hH, hL]; exact hS
  suffices hW : W p l e R s m args below meth c H locs 0 0 (MQ below (ob_Qi b D cA out) args s 0 0 (ob_A b)) (F0 m 0 ls []) by rw [hH, hL] at hW; exact hW
  refine lv_aload_n hx hb d_Mo_wears_0 rfl (lv_at hl 0 rfl) ?_
  refine ob_getR (k := 7) Cx hP ck_11 rfl w_f_Mo_26 d_Mo_wears_1 h (fun n1 h => ?_)
  refine lv_iload_n hx hb d_Mo_wears_4 rfl (lv_at hl 1 rfl) ?_
  refine ob_aldZ Cx hP d_Mo_wears_5 h (fun x5 h => ?_)
  refine lv_if_ne (tgt := 11) hx hb d_Mo_wears_6 (by decide) (fun hq => ?_) (fun hq => ?_)
  · rw [if_pos hq] at h
    refine lv_aload_n hx hb d_Mo_wears_11 rfl (lv_at hl 0 rfl) ?_
    refine ob_getR (k := 9) Cx hP ck_11 rfl w_f_Mo_33 d_Mo_wears_12 h (fun n12 h => ?_)
    refine lv_iload_n hx hb d_Mo_wears_15 rfl (lv_at hl 1 rfl) ?_
    refine lv_dup2_11 hx hb d_Mo_wears_16 rfl rfl ?_
    refine ob_aldI Cx hP d_Mo_wears_17 h (fun x17 h => ?_)
    refine lv_iconst (v := 1) hx hb d_Mo_wears_18 (by decide) ?_
    refine lv_isub hx hb d_Mo_wears_19 ?_
    refine ob_astI Cx hP hS d_Mo_wears_20 h (fun t20 H locs h hP hS => ?_)
    refine lv_aload_n hx hb d_Mo_wears_21 rfl (lv_at hl 0 rfl) ?_
    refine ob_getR (k := 9) Cx hP ck_11 rfl w_f_Mo_33 d_Mo_wears_22 h (fun n22 h => ?_)
    refine lv_iload_n hx hb d_Mo_wears_25 rfl (lv_at hl 1 rfl) ?_
    refine ob_aldI Cx hP d_Mo_wears_26 h (fun x26 h => ?_)
    refine lv_if_le (tgt := 32) hx hb d_Mo_wears_27 (by decide) (fun hq => ?_) (fun hq => ?_)
    · rw [if_pos hq] at h
      refine lv_aload_n hx hb d_Mo_wears_32 rfl (lv_at hl 0 rfl) ?_
      refine ob_getR (k := 11) Cx hP ck_11 rfl w_f_Mo_39 d_Mo_wears_33 h (fun n33 h => ?_)
      refine lv_iload_n hx hb d_Mo_wears_36 rfl (lv_at hl 1 rfl) ?_
      refine ob_aldI Cx hP d_Mo_wears_37 h (fun x37 h => ?_)
      refine lv_iconst (v := 3) hx hb d_Mo_wears_38 (by decide) ?_
      refine lv_icmp_ne (tgt := 51) hx hb d_Mo_wears_39 (by decide) (fun hq => ?_) (fun hq => ?_)
      · rw [if_pos hq] at h
        refine lv_aload_n hx hb d_Mo_wears_51 rfl (lv_at hl 0 rfl) ?_
        refine lv_iload_n hx hb d_Mo_wears_52 rfl (lv_at hl 1 rfl) ?_
        refine ob_cVv (nA := 1) (As := [.int v1]) (rest := []) Cx hl.1 hP hS (fun o ho => c_Mo_sendAgain v0 v1 ho) (fun o ho => g_Mo_sendAgain v0 v1 ho) (by decide) (rfl : ob_cl[11]? = _) mv_Mo_sendAgain w_m_Mo_304 rfl (by decide +kernel) ⟨rfl, rfl⟩ ⟨by decide, by decide⟩ (Nat.le_of_ble_eq_true rfl) rfl d_Mo_wears_53 h (fun t53 H locs h hP hS => ?_)
        refine lv_aload_n hx hb d_Mo_wears_56 rfl (lv_at hl 0 rfl) ?_
        refine ob_getR (k := 11) Cx hP ck_11 rfl w_f_Mo_39 d_Mo_wears_57 h (fun n57 h => ?_)
        refine lv_iload_n hx hb d_Mo_wears_60 rfl (lv_at hl 1 rfl) ?_
        refine lv_dup2_11 hx hb d_Mo_wears_61 rfl rfl ?_
        refine ob_aldI Cx hP d_Mo_wears_62 h (fun x62 h => ?_)
        refine lv_iconst (v := 1) hx hb d_Mo_wears_63 (by decide) ?_
        refine lv_iadd hx hb d_Mo_wears_64 ?_
        refine ob_astI Cx hP hS d_Mo_wears_65 h (fun t65 H locs h hP hS => ?_)
        refine lv_aload_n hx hb d_Mo_wears_66 rfl (lv_at hl 0 rfl) ?_
        refine ob_getR (k := 10) Cx hP ck_11 rfl w_f_Mo_36 d_Mo_wears_67 h (fun n67 h => ?_)
        refine lv_iload_n hx hb d_Mo_wears_70 rfl (lv_at hl 1 rfl) ?_
        refine lv_iconst (v := 2) hx hb d_Mo_wears_71 (by decide) ?_
        refine lv_aload_n hx hb d_Mo_wears_72 rfl (lv_at hl 0 rfl) ?_
        refine ob_getR (k := 10) Cx hP ck_11 rfl w_f_Mo_36 d_Mo_wears_73 h (fun n73 h => ?_)
        refine lv_iload_n hx hb d_Mo_wears_76 rfl (lv_at hl 1 rfl) ?_
        refine ob_aldI Cx hP d_Mo_wears_77 h (fun x77 h => ?_)
        refine lv_imul hx hb d_Mo_wears_78 ?_
        refine ob_astI Cx hP hS d_Mo_wears_79 h (fun t79 H locs h hP hS => ?_)
        refine lv_aload_n hx hb d_Mo_wears_80 rfl (lv_at hl 0 rfl) ?_
        refine ob_getR (k := 9) Cx hP ck_11 rfl w_f_Mo_33 d_Mo_wears_81 h (fun n81 h => ?_)
        refine lv_iload_n hx hb d_Mo_wears_84 rfl (lv_at hl 1 rfl) ?_
        refine lv_aload_n hx hb d_Mo_wears_85 rfl (lv_at hl 0 rfl) ?_
        refine ob_getR (k := 10) Cx hP ck_11 rfl w_f_Mo_36 d_Mo_wears_86 h (fun n86 h => ?_)
        refine lv_iload_n hx hb d_Mo_wears_89 rfl (lv_at hl 1 rfl) ?_
        refine ob_aldI Cx hP d_Mo_wears_90 h (fun x90 h => ?_)
        refine ob_astI Cx hP hS d_Mo_wears_91 h (fun t91 H locs h hP hS => ?_)
        refine lv_iconst (v := 0) hx hb d_Mo_wears_92 (by decide) ?_
        exact ob_zret Cx hP hS d_Mo_wears_93 h
      · rw [if_neg (fun z => z hq)] at h
        refine lv_aload_n hx hb d_Mo_wears_42 rfl (lv_at hl 0 rfl) ?_
        refine ob_getR (k := 7) Cx hP ck_11 rfl w_f_Mo_26 d_Mo_wears_43 h (fun n43 h => ?_)
        refine lv_iload_n hx hb d_Mo_wears_46 rfl (lv_at hl 1 rfl) ?_
        refine lv_iconst (v := 0) hx hb d_Mo_wears_47 (by decide) ?_
        refine ob_astZ Cx hP hS d_Mo_wears_48 h (fun t48 H locs h hP hS => ?_)
        refine lv_iconst (v := 1) hx hb d_Mo_wears_49 (by decide) ?_
        exact ob_zret Cx hP hS d_Mo_wears_50 h
    · rw [if_neg hq] at h
      refine lv_iconst (v := 0) hx hb d_Mo_wears_30 (by decide) ?_
      exact ob_zret Cx hP hS d_Mo_wears_31 h
  · rw [if_neg (fun z => z hq)] at h
    refine lv_iconst (v := 0) hx hb d_Mo_wears_9 (by decide) ?_
    exact ob_zret Cx hP hS d_Mo_wears_10 h
set_option maxHeartbeats 4000000 in
set_option maxRecDepth 100000 in
theorem tB_Mo_tick_40 {p : Program} {l : Launch} {e : Env} {R : Room} {s : State} {m : MethodId} {args : Array Value} {below : List Frame} {meth : Method} {c : Code} {b : Nat} {D : va_G} {cA : Nat → ClassId} {adK adV : Nat → Nat} {out : (Int32 × ob_S)} (Cx : ob_C p R s m args meth c cb_Mo_tick 2 "ObservedBlocksModel" (some .int) b D cA adK adV 3 65) {k12 : Nat → Int32 → ob_S → Option (Int32 × ob_S)} (hk12 : ∀ (t : ob_S) (H : Heap) (locs : List Loc) (ls : Array Slot) (v0 : Nat) (v1 : Int32), ob_H b D cA t H → va_S (ob_A b) s.heap H locs → lv_has ls 2 [(0, .ref (b + v0)), (1, .int v1)] → k12 v0 v1 t = some out → W p l e R s m args below meth c H locs 0 0 (MQ below (ob_Qi b D cA out) args s 0 0 (ob_A b)) (F0 m 12 ls [])) : ∀ (t : ob_S) (H : Heap) (locs : List Loc) (ls : Array Slot) (v0 : Nat) (v1 : Int32) (s0 : Int32) (s1 : Int32) (s2 : Nat), ob_H b D cA t H → va_S (ob_A b) s.heap H locs → lv_has ls 2 [(0, .ref (b + v0)), (1, .int v1)] → B_Mo_tick_40 k12 v0 v1 s0 s1 s2 t = some out → W p l e R s m args below meth c H locs 0 0 (MQ below (ob_Qi b D cA out) args s 0 0 (ob_A b)) (F0 m 40 ls [.int s0, .int s1, .ref (b + s2)]) := by
  have hx := Cx.1.1
  have hb := Cx.1.2.1
  intro t H locs ls v0 v1 s0 s1 s2 hP hS hl h
  unfold B_Mo_tick_40 at h
  refine ob_astI Cx hP hS d_Mo_tick_40 h (fun t40 H locs h hP hS => ?_)
  refine lv_iinc (v := (v1 + (1 : Int32))) (lv' := [(1, .int (v1 + (1 : Int32))), (0, .ref (b + v0))]) hx hb d_Mo_tick_41 hl (k := 1) rfl rfl (by decide) rfl (fun ls hl => ?_)
  refine lv_goto (tgt := 12) hx hb d_Mo_tick_44 (by decide) ?_
  exact hk12 t40 H locs ls v0 (v1 + (1 : Int32)) hP hS (lv_sub hl [1, 0] rfl) h
set_option maxHeartbeats 4000000 in
set_option maxRecDepth 100000 in
theorem tB_Mo_tick_49 {p : Program} {l : Launch} {e : Env} {R : Room} {s : State} {m : MethodId} {args : Array Value} {below : List Frame} {meth : Method} {c : Code} {b : Nat} {D : va_G} {cA : Nat → ClassId} {adK adV : Nat → Nat} {out : (Int32 × ob_S)} (Cx : ob_C p R s m args meth c cb_Mo_tick 2 "ObservedBlocksModel" (some .int) b D cA adK adV 3 65) : ∀ (fu : Nat), ∀ (t : ob_S) (H : Heap) (locs : List Loc) (ls : Array Slot) (v0 : Nat) (v1 : Int32), ob_H b D cA t H → va_S (ob_A b) s.heap H locs → lv_has ls 2 [(0, .ref (b + v0)), (1, .int v1)] → B_Mo_tick_49 fu v0 v1 t = some out → W p l e R s m args below meth c H locs 0 0 (MQ below (ob_Qi b D cA out) args s 0 0 (ob_A b)) (F0 m 49 ls []) := by
  have hx := Cx.1.1
  have hb := Cx.1.2.1
  intro fu
  induction fu with
  | zero =>
    intro t H locs ls v0 v1 hP hS hl h
    cases h
  | succ fu ih =>
    intro t H locs ls v0 v1 hP hS hl h
    rw [B_Mo_tick_49] at h
    refine lv_iload_n hx hb d_Mo_tick_49 rfl (lv_at hl 1 rfl) ?_
    refine lv_aload_n hx hb d_Mo_tick_50 rfl (lv_at hl 0 rfl) ?_
    refine ob_getI (k := 32) Cx hP ck_11 rfl w_f_Mo_242 d_Mo_tick_51 h (fun x51 h => ?_)
    refine lv_icmp_ge (tgt := 81) hx hb d_Mo_tick_54 (by decide) (fun hq => ?_) (fun hq => ?_)
    · rw [if_pos hq] at h
      refine lv_aload_n hx hb d_Mo_tick_81 rfl (lv_at hl 0 rfl) ?_
      refine ob_getI (k := 4) Cx hP ck_11 rfl w_f_Mo_275 d_Mo_tick_82 h (fun x82 h => ?_)
      exact ob_iret Cx hP hS d_Mo_tick_85 h
    · rw [if_neg hq] at h
      refine lv_aload_n hx hb d_Mo_tick_57 rfl (lv_at hl 0 rfl) ?_
      refine lv_iconst (v := 2) hx hb d_Mo_tick_58 (by decide) ?_
      refine lv_iload_n hx hb d_Mo_tick_59 rfl (lv_at hl 1 rfl) ?_
      refine lv_iadd hx hb d_Mo_tick_60 ?_
      refine ob_cVi (nA := 1) (As := [.int ((2 : Int32) + v1)]) (rest := []) Cx hl.1 hP hS (fun o ho => c_Mo_wears v0 ((2 : Int32) + v1) ho) (fun o ho => g_Mo_wears v0 ((2 : Int32) + v1) ho) (by decide) (rfl : ob_cl[11]? = _) mv_Mo_wears w_m_Mo_307 rfl (by decide +kernel) ⟨rfl, rfl⟩ ⟨by decide, by decide⟩ (Nat.le_of_ble_eq_true rfl) rfl d_Mo_tick_61 h (fun x61 t61 H locs h hP hS => ?_)
      refine lv_if_eq (tgt := 75) hx hb d_Mo_tick_64 (by decide) (fun hq => ?_) (fun hq => ?_)
      · rw [if_pos hq] at h
        refine lv_iinc (v := (v1 + (1 : Int32))) (lv' := [(1, .int (v1 + (1 : Int32))), (0, .ref (b + v0))]) hx hb d_Mo_tick_75 hl (k := 1) rfl rfl (by decide) rfl (fun ls hl => ?_)
        refine lv_goto (tgt := 49) hx hb d_Mo_tick_78 (by decide) ?_
        exact ih t61 H locs ls v0 (v1 + (1 : Int32)) hP hS (lv_sub hl [1, 0] rfl) h
      · rw [if_neg hq] at h
        refine lv_aload_n hx hb d_Mo_tick_67 rfl (lv_at hl 0 rfl) ?_
        refine lv_iload_n hx hb d_Mo_tick_68 rfl (lv_at hl 1 rfl) ?_
        refine ob_cVv (nA := 1) (As := [.int v1]) (rest := []) Cx hl.1 hP hS (fun o ho => c_Mo_dropWatcher v0 v1 ho) (fun o ho => g_Mo_dropWatcher v0 v1 ho) (by decide) (rfl : ob_cl[11]? = _) mv_Mo_dropWatcher w_m_Mo_260 rfl (by decide +kernel) ⟨rfl, rfl⟩ ⟨by decide, by decide⟩ (Nat.le_of_ble_eq_true rfl) rfl d_Mo_tick_69 h (fun t69 H locs h hP hS => ?_)
        refine lv_goto (tgt := 49) hx hb d_Mo_tick_72 (by decide) ?_
        exact ih t69 H locs ls v0 v1 hP hS (lv_sub hl [0, 1] rfl) h
set_option maxHeartbeats 4000000 in
set_option maxRecDepth 100000 in
theorem tB_Mo_tick_12 {p : Program} {l : Launch} {e : Env} {R : Room} {s : State} {m : MethodId} {args : Array Value} {below : List Frame} {meth : Method} {c : Code} {b : Nat} {D : va_G} {cA : Nat → ClassId} {adK adV : Nat → Nat} {out : (Int32 × ob_S)} (Cx : ob_C p R s m args meth c cb_Mo_tick 2 "ObservedBlocksModel" (some .int) b D cA adK adV 3 65) : ∀ (fu : Nat), ∀ (t : ob_S) (H : Heap) (locs : List Loc) (ls : Array Slot) (v0 : Nat) (v1 : Int32), ob_H b D cA t H → va_S (ob_A b) s.heap H locs → lv_has ls 2 [(0, .ref (b + v0)), (1, .int v1)] → B_Mo_tick_12 fu v0 v1 t = some out → W p l e R s m args below meth c H locs 0 0 (MQ below (ob_Qi b D cA out) args s 0 0 (ob_A b)) (F0 m 12 ls []) := by
  have hx := Cx.1.1
  have hb := Cx.1.2.1
  intro fu
  induction fu with
  | zero =>
    intro t H locs ls v0 v1 hP hS hl h
    cases h
  | succ fu ih =>
    intro t H locs ls v0 v1 hP hS hl h
    rw [B_Mo_tick_12] at h
    refine lv_iload_n hx hb d_Mo_tick_12 rfl (lv_at hl 1 rfl) ?_
    refine lv_iconst (v := 2) hx hb d_Mo_tick_13 (by decide) ?_
    refine lv_icmp_ge (tgt := 47) hx hb d_Mo_tick_14 (by decide) (fun hq => ?_) (fun hq => ?_)
    · rw [if_pos hq] at h
      refine lv_iconst (v := 0) hx hb d_Mo_tick_47 (by decide) ?_
      refine lv_istore_n (lv' := [(1, .int (0 : Int32)), (0, .ref (b + v0))]) hx hb d_Mo_tick_48 rfl hl (by decide) rfl (fun ls hl => ?_)
      exact tB_Mo_tick_49 Cx ob_fu t H locs ls v0 (0 : Int32) hP hS (lv_sub hl [1, 0] rfl) h
    · rw [if_neg hq] at h
      refine lv_aload_n hx hb d_Mo_tick_17 rfl (lv_at hl 0 rfl) ?_
      refine ob_getR (k := 14) Cx hP ck_11 rfl w_f_Mo_48 d_Mo_tick_18 h (fun n18 h => ?_)
      refine lv_iload_n hx hb d_Mo_tick_21 rfl (lv_at hl 1 rfl) ?_
      refine lv_aload_n hx hb d_Mo_tick_22 rfl (lv_at hl 0 rfl) ?_
      refine lv_iload_n hx hb d_Mo_tick_23 rfl (lv_at hl 1 rfl) ?_
      refine ob_cVi (nA := 1) (As := [.int v1]) (rest := [.int v1, .ref (b + n18)]) Cx hl.1 hP hS (fun o ho => c_Mo_wears v0 v1 ho) (fun o ho => g_Mo_wears v0 v1 ho) (by decide) (rfl : ob_cl[11]? = _) mv_Mo_wears w_m_Mo_307 rfl (by decide +kernel) ⟨rfl, rfl⟩ ⟨by decide, by decide⟩ (Nat.le_of_ble_eq_true rfl) rfl d_Mo_tick_24 h (fun x24 t24 H locs h hP hS => ?_)
      refine lv_if_eq (tgt := 34) hx hb d_Mo_tick_27 (by decide) (fun hq => ?_) (fun hq => ?_)
      · rw [if_pos hq] at h
        refine lv_aload_n hx hb d_Mo_tick_34 rfl (lv_at hl 0 rfl) ?_
        refine ob_getR (k := 14) Cx hP ck_11 rfl w_f_Mo_48 d_Mo_tick_35 h (fun n35 h => ?_)
        refine lv_iload_n hx hb d_Mo_tick_38 rfl (lv_at hl 1 rfl) ?_
        refine ob_aldI Cx hP d_Mo_tick_39 h (fun x39 h => ?_)
        exact tB_Mo_tick_40 Cx ih t24 H locs ls v0 v1 x39 v1 n18 hP hS (lv_sub hl [0, 1] rfl) h
      · rw [if_neg hq] at h
        refine lv_iconst (v := 3) hx hb d_Mo_tick_30 (by decide) ?_
        refine lv_goto (tgt := 40) hx hb d_Mo_tick_31 (by decide) ?_
        exact tB_Mo_tick_40 Cx ih t24 H locs ls v0 v1 (3 : Int32) v1 n18 hP hS (lv_sub hl [0, 1] rfl) h
theorem g_Mo_tick (v0 : Nat) {t : ob_S} {out : (Int32 × ob_S)} (h : X_Mo_tick v0 t = some out) : v0 < ob_n t ∧ ob_k t v0 = 11 := by
  unfold X_Mo_tick ob_this at h
  by_cases q : v0 < ob_n t ∧ ob_k t v0 = 11
  · exact q
  · rw [if_neg q] at h
    cases h
set_option maxHeartbeats 4000000 in
set_option maxRecDepth 100000 in
theorem c_Mo_tick {l : Launch} {b : Nat} {D : va_G} {cA : Nat → ClassId} {adK adV : Nat → Nat} (v0 : Nat) {t : ob_S} {out : (Int32 × ob_S)} (h : X_Mo_tick v0 t = some out) : Met l y_Mo_tick (Cond.code y_Mo_tick cb_Mo_tick 2 (some .int) :: ob_T) { frames := 3, cells := 0, slots := 0, locals := 65 } (ob_Pre b D cA adK adV [.ref (b + v0)] t) (ob_Qi b D cA out) 0 0 (ob_A b) := by
  refine ob_met (by decide) (Nat.le_of_ble_eq_true rfl) ?_
  intro p e R s m args below meth c ls Cx hP hS hl
  have hl : lv_has ls 2 [(0, .ref (b + v0))] := hl
  have hx := Cx.1.1
  have hb := Cx.1.2.1
  have hg := g_Mo_tick v0 h
  unfold X_Mo_tick ob_this at h
  rw [if_pos hg] at h
  obtain ⟨H, hH⟩ : ∃ H, H = s.heap := ⟨_, rfl⟩
  obtain ⟨locs, hL⟩ : ∃ locs : List Loc, locs = [] := ⟨_, rfl⟩
  rw [← hH] at hP
  have hS : va_S (ob_A b) s.heap H locs := by rw [hH, hL]; exact hS
  suffices hW : W p l e R s m args below meth c H locs 0 0 (MQ below (ob_Qi b D cA out) args s 0 0 (ob_A b)) (F0 m 0 ls []) by rw [hH, hL] at hW; exact hW
  refine lv_aload_n hx hb d_Mo_tick_0 rfl (lv_at hl 0 rfl) ?_
  refine lv_dup hx hb d_Mo_tick_1 rfl ?_
  refine ob_getI (k := 4) Cx hP ck_11 rfl w_f_Mo_275 d_Mo_tick_2 h (fun x2 h => ?_)
  refine lv_iconst (v := 1) hx hb d_Mo_tick_5 (by decide) ?_
  refine lv_iadd hx hb d_Mo_tick_6 ?_
  refine ob_putI (k := 4) Cx hP hS ck_11 rfl rfl rfl w_f_Mo_275 d_Mo_tick_7 h (fun t7 H locs h hP hS => ?_)
  refine lv_iconst (v := 0) hx hb d_Mo_tick_10 (by decide) ?_
  refine lv_istore_n (lv' := [(1, .int (0 : Int32)), (0, .ref (b + v0))]) hx hb d_Mo_tick_11 rfl hl (by decide) rfl (fun ls hl => ?_)
  exact tB_Mo_tick_12 Cx ob_fu t7 H locs ls v0 (0 : Int32) hP hS (lv_sub hl [1, 0] rfl) h
set_option maxHeartbeats 4000000 in
set_option maxRecDepth 100000 in
theorem tB_Mo_isDatagram_16 {p : Program} {l : Launch} {e : Env} {R : Room} {s : State} {m : MethodId} {args : Array Value} {below : List Frame} {meth : Method} {c : Code} {b : Nat} {D : va_G} {cA : Nat → ClassId} {adK adV : Nat → Nat} {out : (Int32 × ob_S)} (Cx : ob_C p R s m args meth c cb_Mo_isDatagram 2 "ObservedBlocksModel" (some .boolean) b D cA adK adV 0 0) : ∀ (t : ob_S) (H : Heap) (locs : List Loc) (ls : Array Slot), ob_H b D cA t H → va_S (ob_A b) s.heap H locs → lv_has ls 2 [] → B_Mo_isDatagram_16 t = some out → W p l e R s m args below meth c H locs 0 0 (MQ below (ob_Qi b D cA out) args s 0 0 (ob_A b)) (F0 m 16 ls []) := by
  have hx := Cx.1.1
  have hb := Cx.1.2.1
  intro t H locs ls  hP hS hl h
  unfold B_Mo_isDatagram_16 at h
  refine lv_iconst (v := 0) hx hb d_Mo_isDatagram_16 (by decide) ?_
  exact ob_zret Cx hP hS d_Mo_isDatagram_17 h
theorem g_Mo_isDatagram (v0 : Nat) (v1 : Int32) {t : ob_S} {out : (Int32 × ob_S)} (h : X_Mo_isDatagram v0 v1 t = some out) : v0 < ob_n t ∧ ob_k t v0 = 11 := by
  unfold X_Mo_isDatagram ob_this at h
  by_cases q : v0 < ob_n t ∧ ob_k t v0 = 11
  · exact q
  · rw [if_neg q] at h
    cases h
set_option maxHeartbeats 4000000 in
set_option maxRecDepth 100000 in
theorem c_Mo_isDatagram {l : Launch} {b : Nat} {D : va_G} {cA : Nat → ClassId} {adK adV : Nat → Nat} (v0 : Nat) (v1 : Int32) {t : ob_S} {out : (Int32 × ob_S)} (h : X_Mo_isDatagram v0 v1 t = some out) : Met l y_Mo_isDatagram (Cond.code y_Mo_isDatagram cb_Mo_isDatagram 2 (some .boolean) :: ob_T) { frames := 0, cells := 0, slots := 0, locals := 0 } (ob_Pre b D cA adK adV [.ref (b + v0), .int v1] t) (ob_Qi b D cA out) 0 0 (ob_A b) := by
  refine ob_met (by decide) (Nat.le_of_ble_eq_true rfl) ?_
  intro p e R s m args below meth c ls Cx hP hS hl
  have hl : lv_has ls 2 [(0, .ref (b + v0)), (1, .int v1)] := hl
  have hx := Cx.1.1
  have hb := Cx.1.2.1
  have hg := g_Mo_isDatagram v0 v1 h
  unfold X_Mo_isDatagram ob_this at h
  rw [if_pos hg] at h
  obtain ⟨H, hH⟩ : ∃ H, H = s.heap := ⟨_, rfl⟩
  obtain ⟨locs, hL⟩ : ∃ locs : List Loc, locs = [] := ⟨_, rfl⟩
  rw [← hH] at hP
  have hS : va_S (ob_A b) s.heap H locs := by rw [hH, hL]; exact hS
  suffices hW : W p l e R s m args below meth c H locs 0 0 (MQ below (ob_Qi b D cA out) args s 0 0 (ob_A b)) (F0 m 0 ls []) by rw [hH, hL] at hW; exact hW
  refine lv_iload_n hx hb d_Mo_isDatagram_0 rfl (lv_at hl 1 rfl) ?_
  refine lv_if_lt (tgt := 16) hx hb d_Mo_isDatagram_1 (by decide) (fun hq => ?_) (fun hq => ?_)
  · rw [if_pos hq] at h
    exact tB_Mo_isDatagram_16 Cx t H locs ls hP hS (lv_sub hl [] rfl) h
  · rw [if_neg hq] at h
    refine lv_iload_n hx hb d_Mo_isDatagram_4 rfl (lv_at hl 1 rfl) ?_
    refine lv_aload_n hx hb d_Mo_isDatagram_5 rfl (lv_at hl 0 rfl) ?_
    refine ob_getI (k := 3) Cx hP ck_11 rfl w_f_Mo_156 d_Mo_isDatagram_6 h (fun x6 h => ?_)
    refine lv_icmp_ge (tgt := 16) hx hb d_Mo_isDatagram_9 (by decide) (fun hq => ?_) (fun hq => ?_)
    · rw [if_pos hq] at h
      exact tB_Mo_isDatagram_16 Cx t H locs ls hP hS (lv_sub hl [] rfl) h
    · rw [if_neg hq] at h
      refine lv_iconst (v := 1) hx hb d_Mo_isDatagram_12 (by decide) ?_
      refine lv_goto (tgt := 17) hx hb d_Mo_isDatagram_13 (by decide) ?_
      exact ob_zret Cx hP hS d_Mo_isDatagram_17 h
set_option maxHeartbeats 4000000 in
set_option maxRecDepth 100000 in
theorem tB_Mo_take_85 {p : Program} {l : Launch} {e : Env} {R : Room} {s : State} {m : MethodId} {args : Array Value} {below : List Frame} {meth : Method} {c : Code} {b : Nat} {D : va_G} {cA : Nat → ClassId} {adK adV : Nat → Nat} {out : ob_S} (Cx : ob_C p R s m args meth c cb_Mo_take 4 "ObservedBlocksModel" none b D cA adK adV 0 0) {k45 : Nat → Int32 → ob_S → Option ob_S} (hk45 : ∀ (t : ob_S) (H : Heap) (locs : List Loc) (ls : Array Slot) (v0 : Nat) (v2 : Int32), ob_H b D cA t H → va_S (ob_A b) s.heap H locs → lv_has ls 4 [(0, .ref (b + v0)), (2, .int v2)] → k45 v0 v2 t = some out → W p l e R s m args below meth c H locs 0 0 (MQ below (ob_Qv b D cA out) args s 0 0 (ob_A b)) (F0 m 45 ls [])) : ∀ (fu : Nat), ∀ (t : ob_S) (H : Heap) (locs : List Loc) (ls : Array Slot) (v0 : Nat) (v2 : Int32) (v3 : Int32), ob_H b D cA t H → va_S (ob_A b) s.heap H locs → lv_has ls 4 [(0, .ref (b + v0)), (2, .int v2), (3, .int v3)] → B_Mo_take_85 k45 fu v0 v2 v3 t = some out → W p l e R s m args below meth c H locs 0 0 (MQ below (ob_Qv b D cA out) args s 0 0 (ob_A b)) (F0 m 85 ls []) := by
  have hx := Cx.1.1
  have hb := Cx.1.2.1
  intro fu
  induction fu with
  | zero =>
    intro t H locs ls v0 v2 v3 hP hS hl h
    cases h
  | succ fu ih =>
    intro t H locs ls v0 v2 v3 hP hS hl h
    rw [B_Mo_take_85] at h
    refine lv_iload_n hx hb d_Mo_take_85 rfl (lv_at hl 2 rfl) ?_
    refine lv_bipush (v := 64) hx hb d_Mo_take_86 (by decide) ?_
    refine lv_icmp_ge (tgt := 122) hx hb d_Mo_take_88 (by decide) (fun hq => ?_) (fun hq => ?_)
    · rw [if_pos hq] at h
      refine lv_iinc (v := (v2 + (1 : Int32))) (lv' := [(2, .int (v2 + (1 : Int32))), (0, .ref (b + v0)), (3, .int v3)]) hx hb d_Mo_take_122 hl (k := 1) rfl rfl (by decide) rfl (fun ls hl => ?_)
      refine lv_goto (tgt := 45) hx hb d_Mo_take_125 (by decide) ?_
      exact hk45 t H locs ls v0 (v2 + (1 : Int32)) hP hS (lv_sub hl [1, 0] rfl) h
    · rw [if_neg hq] at h
      refine lv_aload_n hx hb d_Mo_take_91 rfl (lv_at hl 0 rfl) ?_
      refine ob_getR (k := 0) Cx hP ck_11 rfl w_f_Mo_7 d_Mo_take_92 h (fun n92 h => ?_)
      refine lv_bipush (v := 64) hx hb d_Mo_take_95 (by decide) ?_
      refine lv_iload_n hx hb d_Mo_take_97 rfl (lv_at hl 1 rfl) ?_
      refine lv_imul hx hb d_Mo_take_98 ?_
      refine lv_iload_n hx hb d_Mo_take_99 rfl (lv_at hl 2 rfl) ?_
      refine lv_iadd hx hb d_Mo_take_100 ?_
      refine lv_aload_n hx hb d_Mo_take_101 rfl (lv_at hl 0 rfl) ?_
      refine ob_getR (k := 0) Cx hP ck_11 rfl w_f_Mo_7 d_Mo_take_102 h (fun n102 h => ?_)
      refine lv_bipush (v := 64) hx hb d_Mo_take_105 (by decide) ?_
      refine lv_iload_n hx hb d_Mo_take_107 rfl (lv_at hl 1 rfl) ?_
      refine lv_imul hx hb d_Mo_take_108 ?_
      refine lv_bipush (v := 64) hx hb d_Mo_take_109 (by decide) ?_
      refine lv_iadd hx hb d_Mo_take_111 ?_
      refine lv_iload_n hx hb d_Mo_take_112 rfl (lv_at hl 2 rfl) ?_
      refine lv_iadd hx hb d_Mo_take_113 ?_
      refine ob_aldI Cx hP d_Mo_take_114 h (fun x114 h => ?_)
      refine ob_astI Cx hP hS d_Mo_take_115 h (fun t115 H locs h hP hS => ?_)
      refine lv_iinc (v := (v3 + (1 : Int32))) (lv' := [(3, .int (v3 + (1 : Int32))), (0, .ref (b + v0)), (2, .int v2)]) hx hb d_Mo_take_116 hl (k := 2) rfl rfl (by decide) rfl (fun ls hl => ?_)
      refine lv_goto (tgt := 85) hx hb d_Mo_take_119 (by decide) ?_
      exact ih t115 H locs ls v0 v2 (v3 + (1 : Int32)) hP hS (lv_sub hl [1, 2, 0] rfl) h
set_option maxHeartbeats 4000000 in
set_option maxRecDepth 100000 in
theorem tB_Mo_take_45 {p : Program} {l : Launch} {e : Env} {R : Room} {s : State} {m : MethodId} {args : Array Value} {below : List Frame} {meth : Method} {c : Code} {b : Nat} {D : va_G} {cA : Nat → ClassId} {adK adV : Nat → Nat} {out : ob_S} (Cx : ob_C p R s m args meth c cb_Mo_take 4 "ObservedBlocksModel" none b D cA adK adV 0 0) : ∀ (fu : Nat), ∀ (t : ob_S) (H : Heap) (locs : List Loc) (ls : Array Slot) (v0 : Nat) (v2 : Int32), ob_H b D cA t H → va_S (ob_A b) s.heap H locs → lv_has ls 4 [(0, .ref (b + v0)), (2, .int v2)] → B_Mo_take_45 fu v0 v2 t = some out → W p l e R s m args below meth c H locs 0 0 (MQ below (ob_Qv b D cA out) args s 0 0 (ob_A b)) (F0 m 45 ls []) := by
  have hx := Cx.1.1
  have hb := Cx.1.2.1
  intro fu
  induction fu with
  | zero =>
    intro t H locs ls v0 v2 hP hS hl h
    cases h
  | succ fu ih =>
    intro t H locs ls v0 v2 hP hS hl h
    rw [B_Mo_take_45] at h
    refine lv_iload_n hx hb d_Mo_take_45 rfl (lv_at hl 1 rfl) ?_
    refine lv_iconst (v := 1) hx hb d_Mo_take_46 (by decide) ?_
    refine lv_iadd hx hb d_Mo_take_47 ?_
    refine lv_aload_n hx hb d_Mo_take_48 rfl (lv_at hl 0 rfl) ?_
    refine ob_getI (k := 3) Cx hP ck_11 rfl w_f_Mo_156 d_Mo_take_49 h (fun x49 h => ?_)
    refine lv_icmp_ge (tgt := 128) hx hb d_Mo_take_52 (by decide) (fun hq => ?_) (fun hq => ?_)
    · rw [if_pos hq] at h
      refine lv_aload_n hx hb d_Mo_take_128 rfl (lv_at hl 0 rfl) ?_
      refine lv_dup hx hb d_Mo_take_129 rfl ?_
      refine ob_getI (k := 3) Cx hP ck_11 rfl w_f_Mo_156 d_Mo_take_130 h (fun x130 h => ?_)
      refine lv_iconst (v := 1) hx hb d_Mo_take_133 (by decide) ?_
      refine lv_isub hx hb d_Mo_take_134 ?_
      refine ob_putI (k := 3) Cx hP hS ck_11 rfl rfl rfl w_f_Mo_156 d_Mo_take_135 h (fun t135 H locs h hP hS => ?_)
      exact ob_vret Cx hP hS d_Mo_take_138 h
    · rw [if_neg hq] at h
      refine lv_aload_n hx hb d_Mo_take_55 rfl (lv_at hl 0 rfl) ?_
      refine ob_getR (k := 1) Cx hP ck_11 rfl w_f_Mo_13 d_Mo_take_56 h (fun n56 h => ?_)
      refine lv_iload_n hx hb d_Mo_take_59 rfl (lv_at hl 1 rfl) ?_
      refine lv_aload_n hx hb d_Mo_take_60 rfl (lv_at hl 0 rfl) ?_
      refine ob_getR (k := 1) Cx hP ck_11 rfl w_f_Mo_13 d_Mo_take_61 h (fun n61 h => ?_)
      refine lv_iload_n hx hb d_Mo_take_64 rfl (lv_at hl 1 rfl) ?_
      refine lv_iconst (v := 1) hx hb d_Mo_take_65 (by decide) ?_
      refine lv_iadd hx hb d_Mo_take_66 ?_
      refine ob_aldI Cx hP d_Mo_take_67 h (fun x67 h => ?_)
      refine ob_astI Cx hP hS d_Mo_take_68 h (fun t68 H locs h hP hS => ?_)
      refine lv_aload_n hx hb d_Mo_take_69 rfl (lv_at hl 0 rfl) ?_
      refine ob_getR (k := 2) Cx hP ck_11 rfl w_f_Mo_16 d_Mo_take_70 h (fun n70 h => ?_)
      refine lv_iload_n hx hb d_Mo_take_73 rfl (lv_at hl 1 rfl) ?_
      refine lv_aload_n hx hb d_Mo_take_74 rfl (lv_at hl 0 rfl) ?_
      refine ob_getR (k := 2) Cx hP ck_11 rfl w_f_Mo_16 d_Mo_take_75 h (fun n75 h => ?_)
      refine lv_iload_n hx hb d_Mo_take_78 rfl (lv_at hl 1 rfl) ?_
      refine lv_iconst (v := 1) hx hb d_Mo_take_79 (by decide) ?_
      refine lv_iadd hx hb d_Mo_take_80 ?_
      refine ob_aldI Cx hP d_Mo_take_81 h (fun x81 h => ?_)
      refine ob_astI Cx hP hS d_Mo_take_82 h (fun t82 H locs h hP hS => ?_)
      refine lv_iconst (v := 0) hx hb d_Mo_take_83 (by decide) ?_
      refine lv_istore_n (lv' := [(3, .int (0 : Int32)), (0, .ref (b + v0)), (2, .int v2)]) hx hb d_Mo_take_84 rfl hl (by decide) rfl (fun ls hl => ?_)
      exact tB_Mo_take_85 Cx ih ob_fu t82 H locs ls v0 v2 (0 : Int32) hP hS (lv_sub hl [1, 2, 0] rfl) h
set_option maxHeartbeats 4000000 in
set_option maxRecDepth 100000 in
theorem tB_Mo_take_12 {p : Program} {l : Launch} {e : Env} {R : Room} {s : State} {m : MethodId} {args : Array Value} {below : List Frame} {meth : Method} {c : Code} {b : Nat} {D : va_G} {cA : Nat → ClassId} {adK adV : Nat → Nat} {out : ob_S} (Cx : ob_C p R s m args meth c cb_Mo_take 4 "ObservedBlocksModel" none b D cA adK adV 0 0) : ∀ (fu : Nat), ∀ (t : ob_S) (H : Heap) (locs : List Loc) (ls : Array Slot) (v0 : Nat) (v1 : Int32) (v2 : Int32), ob_H b D cA t H → va_S (ob_A b) s.heap H locs → lv_has ls 4 [(0, .ref (b + v0)), (1, .int v1), (2, .int v2)] → B_Mo_take_12 fu v0 v1 v2 t = some out → W p l e R s m args below meth c H locs 0 0 (MQ below (ob_Qv b D cA out) args s 0 0 (ob_A b)) (F0 m 12 ls []) := by
  have hx := Cx.1.1
  have hb := Cx.1.2.1
  intro fu
  induction fu with
  | zero =>
    intro t H locs ls v0 v1 v2 hP hS hl h
    cases h
  | succ fu ih =>
    intro t H locs ls v0 v1 v2 hP hS hl h
    rw [B_Mo_take_12] at h
    refine lv_iload_n hx hb d_Mo_take_12 rfl (lv_at hl 2 rfl) ?_
    refine lv_aload_n hx hb d_Mo_take_13 rfl (lv_at hl 0 rfl) ?_
    refine ob_getI (k := 48) Cx hP ck_11 rfl w_f_Mo_175 d_Mo_take_14 h (fun x14 h => ?_)
    refine lv_icmp_ge (tgt := 43) hx hb d_Mo_take_17 (by decide) (fun hq => ?_) (fun hq => ?_)
    · rw [if_pos hq] at h
      refine lv_iload_n hx hb d_Mo_take_43 rfl (lv_at hl 1 rfl) ?_
      refine lv_istore_n (lv' := [(2, .int v1), (0, .ref (b + v0)), (1, .int v1)]) hx hb d_Mo_take_44 rfl hl (by decide) rfl (fun ls hl => ?_)
      exact tB_Mo_take_45 Cx ob_fu t H locs ls v0 v1 hP hS (lv_sub hl [1, 0] rfl) h
    · rw [if_neg hq] at h
      refine lv_aload_n hx hb d_Mo_take_20 rfl (lv_at hl 0 rfl) ?_
      refine ob_getR (k := 47) Cx hP ck_11 rfl w_f_Mo_129 d_Mo_take_21 h (fun n21 h => ?_)
      refine lv_iload_n hx hb d_Mo_take_24 rfl (lv_at hl 2 rfl) ?_
      refine lv_aload_n hx hb d_Mo_take_25 rfl (lv_at hl 0 rfl) ?_
      refine ob_getR (k := 0) Cx hP ck_11 rfl w_f_Mo_7 d_Mo_take_26 h (fun n26 h => ?_)
      refine lv_bipush (v := 64) hx hb d_Mo_take_29 (by decide) ?_
      refine lv_iload_n hx hb d_Mo_take_31 rfl (lv_at hl 1 rfl) ?_
      refine lv_imul hx hb d_Mo_take_32 ?_
      refine lv_iload_n hx hb d_Mo_take_33 rfl (lv_at hl 2 rfl) ?_
      refine lv_iadd hx hb d_Mo_take_34 ?_
      refine ob_aldI Cx hP d_Mo_take_35 h (fun x35 h => ?_)
      refine ob_astI Cx hP hS d_Mo_take_36 h (fun t36 H locs h hP hS => ?_)
      refine lv_iinc (v := (v2 + (1 : Int32))) (lv' := [(2, .int (v2 + (1 : Int32))), (0, .ref (b + v0)), (1, .int v1)]) hx hb d_Mo_take_37 hl (k := 2) rfl rfl (by decide) rfl (fun ls hl => ?_)
      refine lv_goto (tgt := 12) hx hb d_Mo_take_40 (by decide) ?_
      exact ih t36 H locs ls v0 v1 (v2 + (1 : Int32)) hP hS (lv_sub hl [1, 2, 0] rfl) h
theorem g_Mo_take (v0 : Nat) (v1 : Int32) {t : ob_S} {out : ob_S} (h : X_Mo_take v0 v1 t = some out) : v0 < ob_n t ∧ ob_k t v0 = 11 := by
  unfold X_Mo_take ob_this at h
  by_cases q : v0 < ob_n t ∧ ob_k t v0 = 11
  · exact q
  · rw [if_neg q] at h
    cases h
set_option maxHeartbeats 4000000 in
set_option maxRecDepth 100000 in
theorem c_Mo_take {l : Launch} {b : Nat} {D : va_G} {cA : Nat → ClassId} {adK adV : Nat → Nat} (v0 : Nat) (v1 : Int32) {t : ob_S} {out : ob_S} (h : X_Mo_take v0 v1 t = some out) : Met l y_Mo_take (Cond.code y_Mo_take cb_Mo_take 4 none :: ob_T) { frames := 0, cells := 0, slots := 0, locals := 0 } (ob_Pre b D cA adK adV [.ref (b + v0), .int v1] t) (ob_Qv b D cA out) 0 0 (ob_A b) := by
  refine ob_met (by decide) (Nat.le_of_ble_eq_true rfl) ?_
  intro p e R s m args below meth c ls Cx hP hS hl
  have hl : lv_has ls 4 [(0, .ref (b + v0)), (1, .int v1)] := hl
  have hx := Cx.1.1
  have hb := Cx.1.2.1
  have hg := g_Mo_take v0 v1 h
  unfold X_Mo_take ob_this at h
  rw [if_pos hg] at h
  obtain ⟨H, hH⟩ : ∃ H, H = s.heap := ⟨_, rfl⟩
  obtain ⟨locs, hL⟩ : ∃ locs : List Loc, locs = [] := ⟨_, rfl⟩
  rw [← hH] at hP
  have hS : va_S (ob_A b) s.heap H locs := by rw [hH, hL]; exact hS
  suffices hW : W p l e R s m args below meth c H locs 0 0 (MQ below (ob_Qv b D cA out) args s 0 0 (ob_A b)) (F0 m 0 ls []) by rw [hH, hL] at hW; exact hW
  refine lv_aload_n hx hb d_Mo_take_0 rfl (lv_at hl 0 rfl) ?_
  refine lv_aload_n hx hb d_Mo_take_1 rfl (lv_at hl 0 rfl) ?_
  refine ob_getR (k := 1) Cx hP ck_11 rfl w_f_Mo_13 d_Mo_take_2 h (fun n2 h => ?_)
  refine lv_iload_n hx hb d_Mo_take_5 rfl (lv_at hl 1 rfl) ?_
  refine ob_aldI Cx hP d_Mo_take_6 h (fun x6 h => ?_)
  refine ob_putI (k := 48) Cx hP hS ck_11 rfl rfl rfl w_f_Mo_175 d_Mo_take_7 h (fun t7 H locs h hP hS => ?_)
  refine lv_iconst (v := 0) hx hb d_Mo_take_10 (by decide) ?_
  refine lv_istore_n (lv' := [(2, .int (0 : Int32)), (0, .ref (b + v0)), (1, .int v1)]) hx hb d_Mo_take_11 rfl hl (by decide) rfl (fun ls hl => ?_)
  exact tB_Mo_take_12 Cx ob_fu t7 H locs ls v0 v1 (0 : Int32) hP hS (lv_sub hl [1, 2, 0] rfl) h
set_option maxHeartbeats 4000000 in
set_option maxRecDepth 100000 in
theorem tB_Mo_deliver_44 {p : Program} {l : Launch} {e : Env} {R : Room} {s : State} {m : MethodId} {args : Array Value} {below : List Frame} {meth : Method} {c : Code} {b : Nat} {D : va_G} {cA : Nat → ClassId} {adK adV : Nat → Nat} {out : (Int32 × ob_S)} (Cx : ob_C p R s m args meth c cb_Mo_deliver 3 "ObservedBlocksModel" (some .int) b D cA adK adV 8 182) : ∀ (t : ob_S) (H : Heap) (locs : List Loc) (ls : Array Slot) (v0 : Nat), ob_H b D cA t H → va_S (ob_A b) s.heap H locs → lv_has ls 3 [(0, .ref (b + v0))] → B_Mo_deliver_44 v0 t = some out → W p l e R s m args below meth c H locs 0 0 (MQ below (ob_Qi b D cA out) args s 0 0 (ob_A b)) (F0 m 44 ls []) := by
  have hx := Cx.1.1
  have hb := Cx.1.2.1
  intro t H locs ls v0 hP hS hl h
  unfold B_Mo_deliver_44 at h
  refine lv_aload_n hx hb d_Mo_deliver_44 rfl (lv_at hl 0 rfl) ?_
  refine ob_getI (k := 3) Cx hP ck_11 rfl w_f_Mo_156 d_Mo_deliver_45 h (fun x45 h => ?_)
  exact ob_iret Cx hP hS d_Mo_deliver_48 h
theorem g_Mo_deliver (v0 : Nat) (v1 : Int32) {t : ob_S} {out : (Int32 × ob_S)} (h : X_Mo_deliver v0 v1 t = some out) : v0 < ob_n t ∧ ob_k t v0 = 11 := by
  unfold X_Mo_deliver ob_this at h
  by_cases q : v0 < ob_n t ∧ ob_k t v0 = 11
  · exact q
  · rw [if_neg q] at h
    cases h
set_option maxHeartbeats 4000000 in
set_option maxRecDepth 100000 in
theorem c_Mo_deliver {l : Launch} {b : Nat} {D : va_G} {cA : Nat → ClassId} {adK adV : Nat → Nat} (v0 : Nat) (v1 : Int32) {t : ob_S} {out : (Int32 × ob_S)} (h : X_Mo_deliver v0 v1 t = some out) : Met l y_Mo_deliver (Cond.code y_Mo_deliver cb_Mo_deliver 3 (some .int) :: ob_T) { frames := 8, cells := 0, slots := 0, locals := 182 } (ob_Pre b D cA adK adV [.ref (b + v0), .int v1] t) (ob_Qi b D cA out) 0 0 (ob_A b) := by
  refine ob_met (by decide) (Nat.le_of_ble_eq_true rfl) ?_
  intro p e R s m args below meth c ls Cx hP hS hl
  have hl : lv_has ls 3 [(0, .ref (b + v0)), (1, .int v1)] := hl
  have hx := Cx.1.1
  have hb := Cx.1.2.1
  have hg := g_Mo_deliver v0 v1 h
  unfold X_Mo_deliver ob_this at h
  rw [if_pos hg] at h
  obtain ⟨H, hH⟩ : ∃ H, H = s.heap := ⟨_, rfl⟩
  obtain ⟨locs, hL⟩ : ∃ locs : List Loc, locs = [] := ⟨_, rfl⟩
  rw [← hH] at hP
  have hS : va_S (ob_A b) s.heap H locs := by rw [hH, hL]; exact hS
  suffices hW : W p l e R s m args below meth c H locs 0 0 (MQ below (ob_Qi b D cA out) args s 0 0 (ob_A b)) (F0 m 0 ls []) by rw [hH, hL] at hW; exact hW
  refine lv_aload_n hx hb d_Mo_deliver_0 rfl (lv_at hl 0 rfl) ?_
  refine lv_iload_n hx hb d_Mo_deliver_1 rfl (lv_at hl 1 rfl) ?_
  refine ob_cVi (nA := 1) (As := [.int v1]) (rest := []) Cx hl.1 hP hS (fun o ho => c_Mo_isDatagram v0 v1 ho) (fun o ho => g_Mo_isDatagram v0 v1 ho) (by decide) (rfl : ob_cl[11]? = _) mv_Mo_isDatagram w_m_Mo_310 rfl (by decide +kernel) ⟨rfl, rfl⟩ ⟨by decide, by decide⟩ (Nat.le_of_ble_eq_true rfl) rfl d_Mo_deliver_2 h (fun x2 t2 H locs h hP hS => ?_)
  refine lv_if_ne (tgt := 10) hx hb d_Mo_deliver_5 (by decide) (fun hq => ?_) (fun hq => ?_)
  · rw [if_pos hq] at h
    refine lv_aload_n hx hb d_Mo_deliver_10 rfl (lv_at hl 0 rfl) ?_
    refine ob_getR (k := 2) Cx hP ck_11 rfl w_f_Mo_16 d_Mo_deliver_11 h (fun n11 h => ?_)
    refine lv_iload_n hx hb d_Mo_deliver_14 rfl (lv_at hl 1 rfl) ?_
    refine ob_aldI Cx hP d_Mo_deliver_15 h (fun x15 h => ?_)
    refine lv_istore_n (lv' := [(2, .int x15), (0, .ref (b + v0)), (1, .int v1)]) hx hb d_Mo_deliver_16 rfl hl (by decide) rfl (fun ls hl => ?_)
    refine lv_aload_n hx hb d_Mo_deliver_17 rfl (lv_at hl 1 rfl) ?_
    refine lv_iload_n hx hb d_Mo_deliver_18 rfl (lv_at hl 2 rfl) ?_
    refine ob_cVv (nA := 1) (As := [.int v1]) (rest := []) Cx hl.1 hP hS (fun o ho => c_Mo_take v0 v1 ho) (fun o ho => g_Mo_take v0 v1 ho) (by decide) (rfl : ob_cl[11]? = _) mv_Mo_take w_m_Mo_313 rfl (by decide +kernel) ⟨rfl, rfl⟩ ⟨by decide, by decide⟩ (Nat.le_of_ble_eq_true rfl) rfl d_Mo_deliver_19 h (fun t19 H locs h hP hS => ?_)
    refine lv_aload_n hx hb d_Mo_deliver_22 rfl (lv_at hl 1 rfl) ?_
    refine ob_cVi (nA := 0) (As := []) (rest := []) Cx hl.1 hP hS (fun o ho => c_Mo_read v0 ho) (fun o ho => g_Mo_read v0 ho) (by decide) (rfl : ob_cl[11]? = _) mv_Mo_read w_m_Mo_316 rfl (by decide +kernel) ⟨rfl, rfl⟩ ⟨by decide, by decide⟩ (Nat.le_of_ble_eq_true rfl) rfl d_Mo_deliver_23 h (fun x23 t23 H locs h hP hS => ?_)
    refine lv_if_eq (tgt := 44) hx hb d_Mo_deliver_26 (by decide) (fun hq => ?_) (fun hq => ?_)
    · rw [if_pos hq] at h
      exact tB_Mo_deliver_44 Cx t23 H locs ls v0 hP hS (lv_sub hl [1] rfl) h
    · rw [if_neg hq] at h
      refine lv_iload_n hx hb d_Mo_deliver_29 rfl (lv_at hl 0 rfl) ?_
      refine lv_if_ne (tgt := 40) hx hb d_Mo_deliver_30 (by decide) (fun hq => ?_) (fun hq => ?_)
      · rw [if_pos hq] at h
        refine lv_aload_n hx hb d_Mo_deliver_40 rfl (lv_at hl 1 rfl) ?_
        refine ob_cVv (nA := 0) (As := []) (rest := []) Cx hl.1 hP hS (fun o ho => c_Mo_toServer v0 ho) (fun o ho => g_Mo_toServer v0 ho) (by decide) (rfl : ob_cl[11]? = _) mv_Mo_toServer w_m_Mo_323 rfl (by decide +kernel) ⟨rfl, rfl⟩ ⟨by decide, by decide⟩ (Nat.le_of_ble_eq_true rfl) rfl d_Mo_deliver_41 h (fun t41 H locs h hP hS => ?_)
        exact tB_Mo_deliver_44 Cx t41 H locs ls v0 hP hS (lv_sub hl [1] rfl) h
      · rw [if_neg (fun z => z hq)] at h
        refine lv_aload_n hx hb d_Mo_deliver_33 rfl (lv_at hl 1 rfl) ?_
        refine ob_cVv (nA := 0) (As := []) (rest := []) Cx hl.1 hP hS (fun o ho => c_Mo_toClient v0 ho) (fun o ho => g_Mo_toClient v0 ho) (by decide) (rfl : ob_cl[11]? = _) mv_Mo_toClient w_m_Mo_320 rfl (by decide +kernel) ⟨rfl, rfl⟩ ⟨by decide, by decide⟩ (Nat.le_of_ble_eq_true rfl) rfl d_Mo_deliver_34 h (fun t34 H locs h hP hS => ?_)
        refine lv_goto (tgt := 44) hx hb d_Mo_deliver_37 (by decide) ?_
        exact tB_Mo_deliver_44 Cx t34 H locs ls v0 hP hS (lv_sub hl [1] rfl) h
  · rw [if_neg (fun z => z hq)] at h
    refine lv_iconst (v := -1) hx hb d_Mo_deliver_8 (by decide) ?_
    exact ob_iret Cx hP hS d_Mo_deliver_9 h
theorem g_Mo_lose (v0 : Nat) (v1 : Int32) {t : ob_S} {out : (Int32 × ob_S)} (h : X_Mo_lose v0 v1 t = some out) : v0 < ob_n t ∧ ob_k t v0 = 11 := by
  unfold X_Mo_lose ob_this at h
  by_cases q : v0 < ob_n t ∧ ob_k t v0 = 11
  · exact q
  · rw [if_neg q] at h
    cases h
set_option maxHeartbeats 4000000 in
set_option maxRecDepth 100000 in
theorem c_Mo_lose {l : Launch} {b : Nat} {D : va_G} {cA : Nat → ClassId} {adK adV : Nat → Nat} (v0 : Nat) (v1 : Int32) {t : ob_S} {out : (Int32 × ob_S)} (h : X_Mo_lose v0 v1 t = some out) : Met l y_Mo_lose (Cond.code y_Mo_lose cb_Mo_lose 2 (some .int) :: ob_T) { frames := 1, cells := 0, slots := 0, locals := 23 } (ob_Pre b D cA adK adV [.ref (b + v0), .int v1] t) (ob_Qi b D cA out) 0 0 (ob_A b) := by
  refine ob_met (by decide) (Nat.le_of_ble_eq_true rfl) ?_
  intro p e R s m args below meth c ls Cx hP hS hl
  have hl : lv_has ls 2 [(0, .ref (b + v0)), (1, .int v1)] := hl
  have hx := Cx.1.1
  have hb := Cx.1.2.1
  have hg := g_Mo_lose v0 v1 h
  unfold X_Mo_lose ob_this at h
  rw [if_pos hg] at h
  obtain ⟨H, hH⟩ : ∃ H, H = s.heap := ⟨_, rfl⟩
  obtain ⟨locs, hL⟩ : ∃ locs : List Loc, locs = [] := ⟨_, rfl⟩
  rw [← hH] at hP
  have hS : va_S (ob_A b) s.heap H locs := by rw [hH, hL]; exact hS
  suffices hW : W p l e R s m args below meth c H locs 0 0 (MQ below (ob_Qi b D cA out) args s 0 0 (ob_A b)) (F0 m 0 ls []) by rw [hH, hL] at hW; exact hW
  refine lv_aload_n hx hb d_Mo_lose_0 rfl (lv_at hl 0 rfl) ?_
  refine lv_iload_n hx hb d_Mo_lose_1 rfl (lv_at hl 1 rfl) ?_
  refine ob_cVi (nA := 1) (As := [.int v1]) (rest := []) Cx hl.1 hP hS (fun o ho => c_Mo_isDatagram v0 v1 ho) (fun o ho => g_Mo_isDatagram v0 v1 ho) (by decide) (rfl : ob_cl[11]? = _) mv_Mo_isDatagram w_m_Mo_310 rfl (by decide +kernel) ⟨rfl, rfl⟩ ⟨by decide, by decide⟩ (Nat.le_of_ble_eq_true rfl) rfl d_Mo_lose_2 h (fun x2 t2 H locs h hP hS => ?_)
  refine lv_if_ne (tgt := 10) hx hb d_Mo_lose_5 (by decide) (fun hq => ?_) (fun hq => ?_)
  · rw [if_pos hq] at h
    refine lv_aload_n hx hb d_Mo_lose_10 rfl (lv_at hl 0 rfl) ?_
    refine lv_iload_n hx hb d_Mo_lose_11 rfl (lv_at hl 1 rfl) ?_
    refine ob_cVv (nA := 1) (As := [.int v1]) (rest := []) Cx hl.1 hP hS (fun o ho => c_Mo_take v0 v1 ho) (fun o ho => g_Mo_take v0 v1 ho) (by decide) (rfl : ob_cl[11]? = _) mv_Mo_take w_m_Mo_313 rfl (by decide +kernel) ⟨rfl, rfl⟩ ⟨by decide, by decide⟩ (Nat.le_of_ble_eq_true rfl) rfl d_Mo_lose_12 h (fun t12 H locs h hP hS => ?_)
    refine lv_aload_n hx hb d_Mo_lose_15 rfl (lv_at hl 0 rfl) ?_
    refine ob_getI (k := 3) Cx hP ck_11 rfl w_f_Mo_156 d_Mo_lose_16 h (fun x16 h => ?_)
    exact ob_iret Cx hP hS d_Mo_lose_19 h
  · rw [if_neg (fun z => z hq)] at h
    refine lv_iconst (v := -1) hx hb d_Mo_lose_8 (by decide) ?_
    exact ob_iret Cx hP hS d_Mo_lose_9 h
set_option maxHeartbeats 4000000 in
set_option maxRecDepth 100000 in
theorem tB_Mo_repeat_22 {p : Program} {l : Launch} {e : Env} {R : Room} {s : State} {m : MethodId} {args : Array Value} {below : List Frame} {meth : Method} {c : Code} {b : Nat} {D : va_G} {cA : Nat → ClassId} {adK adV : Nat → Nat} {out : (Int32 × ob_S)} (Cx : ob_C p R s m args meth c cb_Mo_repeat 3 "ObservedBlocksModel" (some .int) b D cA adK adV 1 22) : ∀ (fu : Nat), ∀ (t : ob_S) (H : Heap) (locs : List Loc) (ls : Array Slot) (v0 : Nat) (v1 : Int32) (v2 : Int32), ob_H b D cA t H → va_S (ob_A b) s.heap H locs → lv_has ls 3 [(0, .ref (b + v0)), (1, .int v1), (2, .int v2)] → B_Mo_repeat_22 fu v0 v1 v2 t = some out → W p l e R s m args below meth c H locs 0 0 (MQ below (ob_Qi b D cA out) args s 0 0 (ob_A b)) (F0 m 22 ls []) := by
  have hx := Cx.1.1
  have hb := Cx.1.2.1
  intro fu
  induction fu with
  | zero =>
    intro t H locs ls v0 v1 v2 hP hS hl h
    cases h
  | succ fu ih =>
    intro t H locs ls v0 v1 v2 hP hS hl h
    rw [B_Mo_repeat_22] at h
    refine lv_iload_n hx hb d_Mo_repeat_22 rfl (lv_at hl 2 rfl) ?_
    refine lv_aload_n hx hb d_Mo_repeat_23 rfl (lv_at hl 0 rfl) ?_
    refine ob_getI (k := 45) Cx hP ck_11 rfl w_f_Mo_138 d_Mo_repeat_24 h (fun x24 h => ?_)
    refine lv_icmp_ge (tgt := 53) hx hb d_Mo_repeat_27 (by decide) (fun hq => ?_) (fun hq => ?_)
    · rw [if_pos hq] at h
      refine lv_aload_n hx hb d_Mo_repeat_53 rfl (lv_at hl 0 rfl) ?_
      refine lv_aload_n hx hb d_Mo_repeat_54 rfl (lv_at hl 0 rfl) ?_
      refine ob_getR (k := 2) Cx hP ck_11 rfl w_f_Mo_16 d_Mo_repeat_55 h (fun n55 h => ?_)
      refine lv_iload_n hx hb d_Mo_repeat_58 rfl (lv_at hl 1 rfl) ?_
      refine ob_aldI Cx hP d_Mo_repeat_59 h (fun x59 h => ?_)
      refine ob_cVv (nA := 1) (As := [.int x59]) (rest := []) Cx hl.1 hP hS (fun o ho => c_Mo_send v0 x59 ho) (fun o ho => g_Mo_send v0 x59 ho) (by decide) (rfl : ob_cl[11]? = _) mv_Mo_send w_m_Mo_159 rfl (by decide +kernel) ⟨rfl, rfl⟩ ⟨by decide, by decide⟩ (Nat.le_of_ble_eq_true rfl) rfl d_Mo_repeat_60 h (fun t60 H locs h hP hS => ?_)
      refine lv_aload_n hx hb d_Mo_repeat_63 rfl (lv_at hl 0 rfl) ?_
      refine ob_getI (k := 3) Cx hP ck_11 rfl w_f_Mo_156 d_Mo_repeat_64 h (fun x64 h => ?_)
      exact ob_iret Cx hP hS d_Mo_repeat_67 h
    · rw [if_neg hq] at h
      refine lv_aload_n hx hb d_Mo_repeat_30 rfl (lv_at hl 0 rfl) ?_
      refine ob_getR (k := 44) Cx hP ck_11 rfl w_f_Mo_126 d_Mo_repeat_31 h (fun n31 h => ?_)
      refine lv_iload_n hx hb d_Mo_repeat_34 rfl (lv_at hl 2 rfl) ?_
      refine lv_aload_n hx hb d_Mo_repeat_35 rfl (lv_at hl 0 rfl) ?_
      refine ob_getR (k := 0) Cx hP ck_11 rfl w_f_Mo_7 d_Mo_repeat_36 h (fun n36 h => ?_)
      refine lv_bipush (v := 64) hx hb d_Mo_repeat_39 (by decide) ?_
      refine lv_iload_n hx hb d_Mo_repeat_41 rfl (lv_at hl 1 rfl) ?_
      refine lv_imul hx hb d_Mo_repeat_42 ?_
      refine lv_iload_n hx hb d_Mo_repeat_43 rfl (lv_at hl 2 rfl) ?_
      refine lv_iadd hx hb d_Mo_repeat_44 ?_
      refine ob_aldI Cx hP d_Mo_repeat_45 h (fun x45 h => ?_)
      refine ob_astI Cx hP hS d_Mo_repeat_46 h (fun t46 H locs h hP hS => ?_)
      refine lv_iinc (v := (v2 + (1 : Int32))) (lv' := [(2, .int (v2 + (1 : Int32))), (0, .ref (b + v0)), (1, .int v1)]) hx hb d_Mo_repeat_47 hl (k := 2) rfl rfl (by decide) rfl (fun ls hl => ?_)
      refine lv_goto (tgt := 22) hx hb d_Mo_repeat_50 (by decide) ?_
      exact ih t46 H locs ls v0 v1 (v2 + (1 : Int32)) hP hS (lv_sub hl [1, 2, 0] rfl) h
theorem g_Mo_repeat (v0 : Nat) (v1 : Int32) {t : ob_S} {out : (Int32 × ob_S)} (h : X_Mo_repeat v0 v1 t = some out) : v0 < ob_n t ∧ ob_k t v0 = 11 := by
  unfold X_Mo_repeat ob_this at h
  by_cases q : v0 < ob_n t ∧ ob_k t v0 = 11
  · exact q
  · rw [if_neg q] at h
    cases h
set_option maxHeartbeats 4000000 in
set_option maxRecDepth 100000 in
theorem c_Mo_repeat {l : Launch} {b : Nat} {D : va_G} {cA : Nat → ClassId} {adK adV : Nat → Nat} (v0 : Nat) (v1 : Int32) {t : ob_S} {out : (Int32 × ob_S)} (h : X_Mo_repeat v0 v1 t = some out) : Met l y_Mo_repeat (Cond.code y_Mo_repeat cb_Mo_repeat 3 (some .int) :: ob_T) { frames := 1, cells := 0, slots := 0, locals := 22 } (ob_Pre b D cA adK adV [.ref (b + v0), .int v1] t) (ob_Qi b D cA out) 0 0 (ob_A b) := by
  refine ob_met (by decide) (Nat.le_of_ble_eq_true rfl) ?_
  intro p e R s m args below meth c ls Cx hP hS hl
  have hl : lv_has ls 3 [(0, .ref (b + v0)), (1, .int v1)] := hl
  have hx := Cx.1.1
  have hb := Cx.1.2.1
  have hg := g_Mo_repeat v0 v1 h
  unfold X_Mo_repeat ob_this at h
  rw [if_pos hg] at h
  obtain ⟨H, hH⟩ : ∃ H, H = s.heap := ⟨_, rfl⟩
  obtain ⟨locs, hL⟩ : ∃ locs : List Loc, locs = [] := ⟨_, rfl⟩
  rw [← hH] at hP
  have hS : va_S (ob_A b) s.heap H locs := by rw [hH, hL]; exact hS
  suffices hW : W p l e R s m args below meth c H locs 0 0 (MQ below (ob_Qi b D cA out) args s 0 0 (ob_A b)) (F0 m 0 ls []) by rw [hH, hL] at hW; exact hW
  refine lv_aload_n hx hb d_Mo_repeat_0 rfl (lv_at hl 0 rfl) ?_
  refine lv_iload_n hx hb d_Mo_repeat_1 rfl (lv_at hl 1 rfl) ?_
  refine ob_cVi (nA := 1) (As := [.int v1]) (rest := []) Cx hl.1 hP hS (fun o ho => c_Mo_isDatagram v0 v1 ho) (fun o ho => g_Mo_isDatagram v0 v1 ho) (by decide) (rfl : ob_cl[11]? = _) mv_Mo_isDatagram w_m_Mo_310 rfl (by decide +kernel) ⟨rfl, rfl⟩ ⟨by decide, by decide⟩ (Nat.le_of_ble_eq_true rfl) rfl d_Mo_repeat_2 h (fun x2 t2 H locs h hP hS => ?_)
  refine lv_if_ne (tgt := 10) hx hb d_Mo_repeat_5 (by decide) (fun hq => ?_) (fun hq => ?_)
  · rw [if_pos hq] at h
    refine lv_aload_n hx hb d_Mo_repeat_10 rfl (lv_at hl 0 rfl) ?_
    refine lv_aload_n hx hb d_Mo_repeat_11 rfl (lv_at hl 0 rfl) ?_
    refine ob_getR (k := 1) Cx hP ck_11 rfl w_f_Mo_13 d_Mo_repeat_12 h (fun n12 h => ?_)
    refine lv_iload_n hx hb d_Mo_repeat_15 rfl (lv_at hl 1 rfl) ?_
    refine ob_aldI Cx hP d_Mo_repeat_16 h (fun x16 h => ?_)
    refine ob_putI (k := 45) Cx hP hS ck_11 rfl rfl rfl w_f_Mo_138 d_Mo_repeat_17 h (fun t17 H locs h hP hS => ?_)
    refine lv_iconst (v := 0) hx hb d_Mo_repeat_20 (by decide) ?_
    refine lv_istore_n (lv' := [(2, .int (0 : Int32)), (0, .ref (b + v0)), (1, .int v1)]) hx hb d_Mo_repeat_21 rfl hl (by decide) rfl (fun ls hl => ?_)
    exact tB_Mo_repeat_22 Cx ob_fu t17 H locs ls v0 v1 (0 : Int32) hP hS (lv_sub hl [1, 2, 0] rfl) h
  · rw [if_neg (fun z => z hq)] at h
    refine lv_iconst (v := -1) hx hb d_Mo_repeat_8 (by decide) ?_
    exact ob_iret Cx hP hS d_Mo_repeat_9 h

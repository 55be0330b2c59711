set_option maxHeartbeats 4000000 in
set_option maxRecDepth 100000 in
theorem c_Mo_more {l : Launch} {b : Nat} {D : va_G} {cA : Nat → ClassId} {adK adV : Nat → Nat} (v0 : Int32) (v1 : Int32) (v2 : Int32) {t : ob_S} {out : (Int32 × ob_S)} (h : X_Mo_more v0 v1 v2 t = some out) : Met l y_Mo_more (Cond.code y_Mo_more cb_Mo_more 3 (some .int) :: ob_T) { frames := 1, cells := 0, slots := 0, locals := 20 } (ob_Pre b D cA adK adV [.int v0, .int v1, .int v2] t) (ob_Qi b D cA out) 0 0 (ob_A b) := by
  refine ob_met (by decide) (Nat.le_of_ble_eq_true rfl) ?_
  intro p e R s m args below meth c ls Cx hP hS hl
  have hl : lv_has ls 3 [(0, .int v0), (1, .int v1), (2, .int v2)] := hl
  have hx := Cx.1.1
  have hb := Cx.1.2.1
  unfold X_Mo_more at h
  obtain ⟨H, hH⟩ : ∃ H, H = s.heap := ⟨_, rfl⟩
  obtain ⟨locs, hL⟩ : ∃ locs : List Loc, locs = [] := ⟨_, rfl⟩
  rw [← hH] at hP
  have hS : va_S (ob_A b) s.heap H locs := by rw [hH, hL]; exact hS
  suffices hW : W p l e R s m args below meth c H locs 0 0 (MQ below (ob_Qi b D cA out) args s 0 0 (ob_A b)) (F0 m 0 ls []) by rw [hH, hL] at hW; exact hW
  refine lv_iload_n hx hb d_Mo_more_0 rfl (lv_at hl 0 rfl) ?_
  refine lv_iload_n hx hb d_Mo_more_1 rfl (lv_at hl 1 rfl) ?_
  refine lv_iconst (v := 1) hx hb d_Mo_more_2 (by decide) ?_
  refine lv_iadd hx hb d_Mo_more_3 ?_
  refine lv_iload_n hx hb d_Mo_more_4 rfl (lv_at hl 2 rfl) ?_
  refine ob_cSi (nA := 1) (As := [.int v2]) (rest := [.int (v1 + (1 : Int32)), .int v0]) Cx hl.1 hP hS (fun o ho => c_Mo_sizeOf v2 ho) ms_Mo_sizeOf w_m_Mo_152 rfl (by decide +kernel) ⟨rfl, rfl⟩ ⟨by decide, by decide⟩ (Nat.le_of_ble_eq_true rfl) rfl d_Mo_more_5 h (fun x5 t5 H locs h hP hS => ?_)
  refine lv_imul hx hb d_Mo_more_8 ?_
  refine lv_icmp_le (tgt := 16) hx hb d_Mo_more_9 (by decide) (fun hq => ?_) (fun hq => ?_)
  · rw [if_pos hq] at h
    refine lv_iconst (v := 0) hx hb d_Mo_more_16 (by decide) ?_
    exact ob_iret Cx hP hS d_Mo_more_17 h
  · rw [if_neg hq] at h
    refine lv_iconst (v := 1) hx hb d_Mo_more_12 (by decide) ?_
    refine lv_goto (tgt := 17) hx hb d_Mo_more_13 (by decide) ?_
    exact ob_iret Cx hP hS d_Mo_more_17 h
set_option maxHeartbeats 4000000 in
set_option maxRecDepth 100000 in
theorem tB_Mo_send_12 {p : Program} {l : Launch} {e : Env} {R : Room} {s : State} {m : MethodId} {args : Array Value} {below : List Frame} {meth : Method} {c : Code} {b : Nat} {D : va_G} {cA : Nat → ClassId} {adK adV : Nat → Nat} {out : ob_S} (Cx : ob_C p R s m args meth c cb_Mo_send 3 "ObservedBlocksModel" none b D cA adK adV 0 0) : ∀ (fu : Nat), ∀ (t : ob_S) (H : Heap) (locs : List Loc) (ls : Array Slot) (v0 : Nat) (v1 : Int32) (v2 : Int32), ob_H b D cA t H → va_S (ob_A b) s.heap H locs → lv_has ls 3 [(0, .ref (b + v0)), (1, .int v1), (2, .int v2)] → B_Mo_send_12 fu v0 v1 v2 t = some out → W p l e R s m args below meth c H locs 0 0 (MQ below (ob_Qv b D cA out) args s 0 0 (ob_A b)) (F0 m 12 ls []) := by
  have hx := Cx.1.1
  have hb := Cx.1.2.1
  intro fu
  induction fu with
  | zero =>
    intro t H locs ls v0 v1 v2 hP hS hl h
    cases h
  | succ fu ih =>
    intro t H locs ls v0 v1 v2 hP hS hl h
    rw [B_Mo_send_12] at h
    refine lv_iload_n hx hb d_Mo_send_12 rfl (lv_at hl 2 rfl) ?_
    refine lv_aload_n hx hb d_Mo_send_13 rfl (lv_at hl 0 rfl) ?_
    refine ob_getI (k := 45) Cx hP ck_11 rfl w_f_Mo_138 d_Mo_send_14 h (fun x14 h => ?_)
    refine lv_icmp_ge (tgt := 46) hx hb d_Mo_send_17 (by decide) (fun hq => ?_) (fun hq => ?_)
    · rw [if_pos hq] at h
      refine lv_aload_n hx hb d_Mo_send_46 rfl (lv_at hl 0 rfl) ?_
      refine ob_getR (k := 1) Cx hP ck_11 rfl w_f_Mo_13 d_Mo_send_47 h (fun n47 h => ?_)
      refine lv_aload_n hx hb d_Mo_send_50 rfl (lv_at hl 0 rfl) ?_
      refine ob_getI (k := 3) Cx hP ck_11 rfl w_f_Mo_156 d_Mo_send_51 h (fun x51 h => ?_)
      refine lv_aload_n hx hb d_Mo_send_54 rfl (lv_at hl 0 rfl) ?_
      refine ob_getI (k := 45) Cx hP ck_11 rfl w_f_Mo_138 d_Mo_send_55 h (fun x55 h => ?_)
      refine ob_astI Cx hP hS d_Mo_send_58 h (fun t58 H locs h hP hS => ?_)
      refine lv_aload_n hx hb d_Mo_send_59 rfl (lv_at hl 0 rfl) ?_
      refine ob_getR (k := 2) Cx hP ck_11 rfl w_f_Mo_16 d_Mo_send_60 h (fun n60 h => ?_)
      refine lv_aload_n hx hb d_Mo_send_63 rfl (lv_at hl 0 rfl) ?_
      refine ob_getI (k := 3) Cx hP ck_11 rfl w_f_Mo_156 d_Mo_send_64 h (fun x64 h => ?_)
      refine lv_iload_n hx hb d_Mo_send_67 rfl (lv_at hl 1 rfl) ?_
      refine ob_astI Cx hP hS d_Mo_send_68 h (fun t68 H locs h hP hS => ?_)
      refine lv_aload_n hx hb d_Mo_send_69 rfl (lv_at hl 0 rfl) ?_
      refine lv_dup hx hb d_Mo_send_70 rfl ?_
      refine ob_getI (k := 3) Cx hP ck_11 rfl w_f_Mo_156 d_Mo_send_71 h (fun x71 h => ?_)
      refine lv_iconst (v := 1) hx hb d_Mo_send_74 (by decide) ?_
      refine lv_iadd hx hb d_Mo_send_75 ?_
      refine ob_putI (k := 3) Cx hP hS ck_11 rfl rfl rfl w_f_Mo_156 d_Mo_send_76 h (fun t76 H locs h hP hS => ?_)
      exact ob_vret Cx hP hS d_Mo_send_79 h
    · rw [if_neg hq] at h
      refine lv_aload_n hx hb d_Mo_send_20 rfl (lv_at hl 0 rfl) ?_
      refine ob_getR (k := 0) Cx hP ck_11 rfl w_f_Mo_7 d_Mo_send_21 h (fun n21 h => ?_)
      refine lv_bipush (v := 64) hx hb d_Mo_send_24 (by decide) ?_
      refine lv_aload_n hx hb d_Mo_send_26 rfl (lv_at hl 0 rfl) ?_
      refine ob_getI (k := 3) Cx hP ck_11 rfl w_f_Mo_156 d_Mo_send_27 h (fun x27 h => ?_)
      refine lv_imul hx hb d_Mo_send_30 ?_
      refine lv_iload_n hx hb d_Mo_send_31 rfl (lv_at hl 2 rfl) ?_
      refine lv_iadd hx hb d_Mo_send_32 ?_
      refine lv_aload_n hx hb d_Mo_send_33 rfl (lv_at hl 0 rfl) ?_
      refine ob_getR (k := 44) Cx hP ck_11 rfl w_f_Mo_126 d_Mo_send_34 h (fun n34 h => ?_)
      refine lv_iload_n hx hb d_Mo_send_37 rfl (lv_at hl 2 rfl) ?_
      refine ob_aldI Cx hP d_Mo_send_38 h (fun x38 h => ?_)
      refine ob_astI Cx hP hS d_Mo_send_39 h (fun t39 H locs h hP hS => ?_)
      refine lv_iinc (v := (v2 + (1 : Int32))) (lv' := [(2, .int (v2 + (1 : Int32))), (0, .ref (b + v0)), (1, .int v1)]) hx hb d_Mo_send_40 hl (k := 2) rfl rfl (by decide) rfl (fun ls hl => ?_)
      refine lv_goto (tgt := 12) hx hb d_Mo_send_43 (by decide) ?_
      exact ih t39 H locs ls v0 v1 (v2 + (1 : Int32)) hP hS (lv_sub hl [1, 2, 0] rfl) h
theorem g_Mo_send (v0 : Nat) (v1 : Int32) {t : ob_S} {out : ob_S} (h : X_Mo_send v0 v1 t = some out) : v0 < ob_n t ∧ ob_k t v0 = 11 := by
  unfold X_Mo_send ob_this at h
  by_cases q : v0 < ob_n t ∧ ob_k t v0 = 11
  · exact q
  · rw [if_neg q] at h
    cases h
set_option maxHeartbeats 4000000 in
set_option maxRecDepth 100000 in
theorem c_Mo_send {l : Launch} {b : Nat} {D : va_G} {cA : Nat → ClassId} {adK adV : Nat → Nat} (v0 : Nat) (v1 : Int32) {t : ob_S} {out : ob_S} (h : X_Mo_send v0 v1 t = some out) : Met l y_Mo_send (Cond.code y_Mo_send cb_Mo_send 3 none :: ob_T) { frames := 0, cells := 0, slots := 0, locals := 0 } (ob_Pre b D cA adK adV [.ref (b + v0), .int v1] t) (ob_Qv b D cA out) 0 0 (ob_A b) := by
  refine ob_met (by decide) (Nat.le_of_ble_eq_true rfl) ?_
  intro p e R s m args below meth c ls Cx hP hS hl
  have hl : lv_has ls 3 [(0, .ref (b + v0)), (1, .int v1)] := hl
  have hx := Cx.1.1
  have hb := Cx.1.2.1
  have hg := g_Mo_send v0 v1 h
  unfold X_Mo_send ob_this at h
  rw [if_pos hg] at h
  obtain ⟨H, hH⟩ : ∃ H, H = s.heap := ⟨_, rfl⟩
  obtain ⟨locs, hL⟩ : ∃ locs : List Loc, locs = [] := ⟨_, rfl⟩
  rw [← hH] at hP
  have hS : va_S (ob_A b) s.heap H locs := by rw [hH, hL]; exact hS
  suffices hW : W p l e R s m args below meth c H locs 0 0 (MQ below (ob_Qv b D cA out) args s 0 0 (ob_A b)) (F0 m 0 ls []) by rw [hH, hL] at hW; exact hW
  refine lv_aload_n hx hb d_Mo_send_0 rfl (lv_at hl 0 rfl) ?_
  refine ob_getI (k := 3) Cx hP ck_11 rfl w_f_Mo_156 d_Mo_send_1 h (fun x1 h => ?_)
  refine lv_bipush (v := 16) hx hb d_Mo_send_4 (by decide) ?_
  refine lv_icmp_ne (tgt := 10) hx hb d_Mo_send_6 (by decide) (fun hq => ?_) (fun hq => ?_)
  · rw [if_pos hq] at h
    refine lv_iconst (v := 0) hx hb d_Mo_send_10 (by decide) ?_
    refine lv_istore_n (lv' := [(2, .int (0 : Int32)), (0, .ref (b + v0)), (1, .int v1)]) hx hb d_Mo_send_11 rfl hl (by decide) rfl (fun ls hl => ?_)
    exact tB_Mo_send_12 Cx ob_fu t H locs ls v0 v1 (0 : Int32) hP hS (lv_sub hl [1, 2, 0] rfl) h
  · rw [if_neg (fun z => z hq)] at h
    exact ob_vret Cx hP hS d_Mo_send_9 h
set_option maxHeartbeats 4000000 in
set_option maxRecDepth 100000 in
theorem tB_Mo_hold_47 {p : Program} {l : Launch} {e : Env} {R : Room} {s : State} {m : MethodId} {args : Array Value} {below : List Frame} {meth : Method} {c : Code} {b : Nat} {D : va_G} {cA : Nat → ClassId} {adK adV : Nat → Nat} {out : ob_S} (Cx : ob_C p R s m args meth c cb_Mo_hold 4 "ObservedBlocksModel" none b D cA adK adV 0 0) : ∀ (fu : Nat), ∀ (t : ob_S) (H : Heap) (locs : List Loc) (ls : Array Slot) (v0 : Nat) (v1 : Int32) (v3 : Int32), ob_H b D cA t H → va_S (ob_A b) s.heap H locs → lv_has ls 4 [(0, .ref (b + v0)), (1, .int v1), (3, .int v3)] → B_Mo_hold_47 fu v0 v1 v3 t = some out → W p l e R s m args below meth c H locs 0 0 (MQ below (ob_Qv b D cA out) args s 0 0 (ob_A b)) (F0 m 47 ls []) := by
  have hx := Cx.1.1
  have hb := Cx.1.2.1
  intro fu
  induction fu with
  | zero =>
    intro t H locs ls v0 v1 v3 hP hS hl h
    cases h
  | succ fu ih =>
    intro t H locs ls v0 v1 v3 hP hS hl h
    rw [B_Mo_hold_47] at h
    refine lv_iload_n hx hb d_Mo_hold_47 rfl (lv_at hl 2 rfl) ?_
    refine lv_aload_n hx hb d_Mo_hold_48 rfl (lv_at hl 0 rfl) ?_
    refine ob_getI (k := 45) Cx hP ck_11 rfl w_f_Mo_138 d_Mo_hold_49 h (fun x49 h => ?_)
    refine lv_icmp_ge (tgt := 78) hx hb d_Mo_hold_52 (by decide) (fun hq => ?_) (fun hq => ?_)
    · rw [if_pos hq] at h
      exact ob_vret Cx hP hS d_Mo_hold_78 h
    · rw [if_neg hq] at h
      refine lv_aload_n hx hb d_Mo_hold_55 rfl (lv_at hl 0 rfl) ?_
      refine ob_getR (k := 12) Cx hP ck_11 rfl w_f_Mo_42 d_Mo_hold_56 h (fun n56 h => ?_)
      refine lv_bipush (v := 64) hx hb d_Mo_hold_59 (by decide) ?_
      refine lv_iload_n hx hb d_Mo_hold_61 rfl (lv_at hl 1 rfl) ?_
      refine lv_imul hx hb d_Mo_hold_62 ?_
      refine lv_iload_n hx hb d_Mo_hold_63 rfl (lv_at hl 2 rfl) ?_
      refine lv_iadd hx hb d_Mo_hold_64 ?_
      refine lv_aload_n hx hb d_Mo_hold_65 rfl (lv_at hl 0 rfl) ?_
      refine ob_getR (k := 44) Cx hP ck_11 rfl w_f_Mo_126 d_Mo_hold_66 h (fun n66 h => ?_)
      refine lv_iload_n hx hb d_Mo_hold_69 rfl (lv_at hl 2 rfl) ?_
      refine ob_aldI Cx hP d_Mo_hold_70 h (fun x70 h => ?_)
      refine ob_astI Cx hP hS d_Mo_hold_71 h (fun t71 H locs h hP hS => ?_)
      refine lv_iinc (v := (v3 + (1 : Int32))) (lv' := [(3, .int (v3 + (1 : Int32))), (0, .ref (b + v0)), (1, .int v1)]) hx hb d_Mo_hold_72 hl (k := 2) rfl rfl (by decide) rfl (fun ls hl => ?_)
      refine lv_goto (tgt := 47) hx hb d_Mo_hold_75 (by decide) ?_
      exact ih t71 H locs ls v0 v1 (v3 + (1 : Int32)) hP hS (lv_sub hl [1, 2, 0] rfl) h
theorem g_Mo_hold (v0 : Nat) (v1 : Int32) (v2 : Int32) {t : ob_S} {out : ob_S} (h : X_Mo_hold v0 v1 v2 t = some out) : v0 < ob_n t ∧ ob_k t v0 = 11 := by
  unfold X_Mo_hold ob_this at h
  by_cases q : v0 < ob_n t ∧ ob_k t v0 = 11
  · exact q
  · rw [if_neg q] at h
    cases h
set_option maxHeartbeats 4000000 in
set_option maxRecDepth 100000 in
theorem c_Mo_hold {l : Launch} {b : Nat} {D : va_G} {cA : Nat → ClassId} {adK adV : Nat → Nat} (v0 : Nat) (v1 : Int32) (v2 : Int32) {t : ob_S} {out : ob_S} (h : X_Mo_hold v0 v1 v2 t = some out) : Met l y_Mo_hold (Cond.code y_Mo_hold cb_Mo_hold 4 none :: ob_T) { frames := 0, cells := 0, slots := 0, locals := 0 } (ob_Pre b D cA adK adV [.ref (b + v0), .int v1, .int v2] t) (ob_Qv b D cA out) 0 0 (ob_A b) := by
  refine ob_met (by decide) (Nat.le_of_ble_eq_true rfl) ?_
  intro p e R s m args below meth c ls Cx hP hS hl
  have hl : lv_has ls 4 [(0, .ref (b + v0)), (1, .int v1), (2, .int v2)] := hl
  have hx := Cx.1.1
  have hb := Cx.1.2.1
  have hg := g_Mo_hold v0 v1 v2 h
  unfold X_Mo_hold ob_this at h
  rw [if_pos hg] at h
  obtain ⟨H, hH⟩ : ∃ H, H = s.heap := ⟨_, rfl⟩
  obtain ⟨locs, hL⟩ : ∃ locs : List Loc, locs = [] := ⟨_, rfl⟩
  rw [← hH] at hP
  have hS : va_S (ob_A b) s.heap H locs := by rw [hH, hL]; exact hS
  suffices hW : W p l e R s m args below meth c H locs 0 0 (MQ below (ob_Qv b D cA out) args s 0 0 (ob_A b)) (F0 m 0 ls []) by rw [hH, hL] at hW; exact hW
  refine lv_aload_n hx hb d_Mo_hold_0 rfl (lv_at hl 0 rfl) ?_
  refine ob_getR (k := 7) Cx hP ck_11 rfl w_f_Mo_26 d_Mo_hold_1 h (fun n1 h => ?_)
  refine lv_iload_n hx hb d_Mo_hold_4 rfl (lv_at hl 1 rfl) ?_
  refine lv_iconst (v := 1) hx hb d_Mo_hold_5 (by decide) ?_
  refine ob_astZ Cx hP hS d_Mo_hold_6 h (fun t6 H locs h hP hS => ?_)
  refine lv_aload_n hx hb d_Mo_hold_7 rfl (lv_at hl 0 rfl) ?_
  refine ob_getR (k := 8) Cx hP ck_11 rfl w_f_Mo_30 d_Mo_hold_8 h (fun n8 h => ?_)
  refine lv_iload_n hx hb d_Mo_hold_11 rfl (lv_at hl 1 rfl) ?_
  refine lv_iload_n hx hb d_Mo_hold_12 rfl (lv_at hl 2 rfl) ?_
  refine ob_astI Cx hP hS d_Mo_hold_13 h (fun t13 H locs h hP hS => ?_)
  refine lv_aload_n hx hb d_Mo_hold_14 rfl (lv_at hl 0 rfl) ?_
  refine ob_getR (k := 9) Cx hP ck_11 rfl w_f_Mo_33 d_Mo_hold_15 h (fun n15 h => ?_)
  refine lv_iload_n hx hb d_Mo_hold_18 rfl (lv_at hl 1 rfl) ?_
  refine lv_iconst (v := 4) hx hb d_Mo_hold_19 (by decide) ?_
  refine ob_astI Cx hP hS d_Mo_hold_20 h (fun t20 H locs h hP hS => ?_)
  refine lv_aload_n hx hb d_Mo_hold_21 rfl (lv_at hl 0 rfl) ?_
  refine ob_getR (k := 10) Cx hP ck_11 rfl w_f_Mo_36 d_Mo_hold_22 h (fun n22 h => ?_)
  refine lv_iload_n hx hb d_Mo_hold_25 rfl (lv_at hl 1 rfl) ?_
  refine lv_iconst (v := 4) hx hb d_Mo_hold_26 (by decide) ?_
  refine ob_astI Cx hP hS d_Mo_hold_27 h (fun t27 H locs h hP hS => ?_)
  refine lv_aload_n hx hb d_Mo_hold_28 rfl (lv_at hl 0 rfl) ?_
  refine ob_getR (k := 11) Cx hP ck_11 rfl w_f_Mo_39 d_Mo_hold_29 h (fun n29 h => ?_)
  refine lv_iload_n hx hb d_Mo_hold_32 rfl (lv_at hl 1 rfl) ?_
  refine lv_iconst (v := 0) hx hb d_Mo_hold_33 (by decide) ?_
  refine ob_astI Cx hP hS d_Mo_hold_34 h (fun t34 H locs h hP hS => ?_)
  refine lv_aload_n hx hb d_Mo_hold_35 rfl (lv_at hl 0 rfl) ?_
  refine ob_getR (k := 13) Cx hP ck_11 rfl w_f_Mo_45 d_Mo_hold_36 h (fun n36 h => ?_)
  refine lv_iload_n hx hb d_Mo_hold_39 rfl (lv_at hl 1 rfl) ?_
  refine lv_aload_n hx hb d_Mo_hold_40 rfl (lv_at hl 0 rfl) ?_
  refine ob_getI (k := 45) Cx hP ck_11 rfl w_f_Mo_138 d_Mo_hold_41 h (fun x41 h => ?_)
  refine ob_astI Cx hP hS d_Mo_hold_44 h (fun t44 H locs h hP hS => ?_)
  refine lv_iconst (v := 0) hx hb d_Mo_hold_45 (by decide) ?_
  refine lv_istore_n (lv' := [(3, .int (0 : Int32)), (0, .ref (b + v0)), (1, .int v1), (2, .int v2)]) hx hb d_Mo_hold_46 rfl hl (by decide) rfl (fun ls hl => ?_)
  exact tB_Mo_hold_47 Cx ob_fu t44 H locs ls v0 v1 (0 : Int32) hP hS (lv_sub hl [1, 2, 0] rfl) h
set_option maxHeartbeats 4000000 in
set_option maxRecDepth 100000 in
theorem tB_Mo_sendAgain_54 {p : Program} {l : Launch} {e : Env} {R : Room} {s : State} {m : MethodId} {args : Array Value} {below : List Frame} {meth : Method} {c : Code} {b : Nat} {D : va_G} {cA : Nat → ClassId} {adK adV : Nat → Nat} {out : ob_S} (Cx : ob_C p R s m args meth c cb_Mo_sendAgain 3 "ObservedBlocksModel" none b D cA adK adV 1 22) : ∀ (t : ob_S) (H : Heap) (locs : List Loc) (ls : Array Slot) (s0 : Int32) (s1 : Nat), ob_H b D cA t H → va_S (ob_A b) s.heap H locs → lv_has ls 3 [] → B_Mo_sendAgain_54 s0 s1 t = some out → W p l e R s m args below meth c H locs 0 0 (MQ below (ob_Qv b D cA out) args s 0 0 (ob_A b)) (F0 m 54 ls [.int s0, .ref (b + s1)]) := by
  have hx := Cx.1.1
  have hb := Cx.1.2.1
  intro t H locs ls s0 s1 hP hS hl h
  unfold B_Mo_sendAgain_54 at h
  refine ob_cVv (nA := 1) (As := [.int s0]) (rest := []) Cx hl.1 hP hS (fun o ho => c_Mo_send s1 s0 ho) (fun o ho => g_Mo_send s1 s0 ho) (by decide) (rfl : ob_cl[11]? = _) mv_Mo_send w_m_Mo_159 rfl (by decide +kernel) ⟨rfl, rfl⟩ ⟨by decide, by decide⟩ (Nat.le_of_ble_eq_true rfl) rfl d_Mo_sendAgain_54 h (fun t54 H locs h hP hS => ?_)
  exact ob_vret Cx hP hS d_Mo_sendAgain_57 h
set_option maxHeartbeats 4000000 in
set_option maxRecDepth 100000 in
theorem tB_Mo_sendAgain_12 {p : Program} {l : Launch} {e : Env} {R : Room} {s : State} {m : MethodId} {args : Array Value} {below : List Frame} {meth : Method} {c : Code} {b : Nat} {D : va_G} {cA : Nat → ClassId} {adK adV : Nat → Nat} {out : ob_S} (Cx : ob_C p R s m args meth c cb_Mo_sendAgain 3 "ObservedBlocksModel" none b D cA adK adV 1 22) : ∀ (fu : Nat), ∀ (t : ob_S) (H : Heap) (locs : List Loc) (ls : Array Slot) (v0 : Nat) (v1 : Int32) (v2 : Int32), ob_H b D cA t H → va_S (ob_A b) s.heap H locs → lv_has ls 3 [(0, .ref (b + v0)), (1, .int v1), (2, .int v2)] → B_Mo_sendAgain_12 fu v0 v1 v2 t = some out → W p l e R s m args below meth c H locs 0 0 (MQ below (ob_Qv b D cA out) args s 0 0 (ob_A b)) (F0 m 12 ls []) := by
  have hx := Cx.1.1
  have hb := Cx.1.2.1
  intro fu
  induction fu with
  | zero =>
    intro t H locs ls v0 v1 v2 hP hS hl h
    cases h
  | succ fu ih =>
    intro t H locs ls v0 v1 v2 hP hS hl h
    rw [B_Mo_sendAgain_12] at h
    refine lv_iload_n hx hb d_Mo_sendAgain_12 rfl (lv_at hl 2 rfl) ?_
    refine lv_aload_n hx hb d_Mo_sendAgain_13 rfl (lv_at hl 0 rfl) ?_
    refine ob_getI (k := 45) Cx hP ck_11 rfl w_f_Mo_138 d_Mo_sendAgain_14 h (fun x14 h => ?_)
    refine lv_icmp_ge (tgt := 43) hx hb d_Mo_sendAgain_17 (by decide) (fun hq => ?_) (fun hq => ?_)
    · rw [if_pos hq] at h
      refine lv_aload_n hx hb d_Mo_sendAgain_43 rfl (lv_at hl 0 rfl) ?_
      refine lv_iload_n hx hb d_Mo_sendAgain_44 rfl (lv_at hl 1 rfl) ?_
      refine lv_iconst (v := 2) hx hb d_Mo_sendAgain_45 (by decide) ?_
      refine lv_icmp_ge (tgt := 53) hx hb d_Mo_sendAgain_46 (by decide) (fun hq => ?_) (fun hq => ?_)
      · rw [if_pos hq] at h
        refine lv_iconst (v := 0) hx hb d_Mo_sendAgain_53 (by decide) ?_
        exact tB_Mo_sendAgain_54 Cx t H locs ls (0 : Int32) v0 hP hS (lv_sub hl [] rfl) h
      · rw [if_neg hq] at h
        refine lv_iconst (v := 1) hx hb d_Mo_sendAgain_49 (by decide) ?_
        refine lv_goto (tgt := 54) hx hb d_Mo_sendAgain_50 (by decide) ?_
        exact tB_Mo_sendAgain_54 Cx t H locs ls (1 : Int32) v0 hP hS (lv_sub hl [] rfl) h
    · rw [if_neg hq] at h
      refine lv_aload_n hx hb d_Mo_sendAgain_20 rfl (lv_at hl 0 rfl) ?_
      refine ob_getR (k := 44) Cx hP ck_11 rfl w_f_Mo_126 d_Mo_sendAgain_21 h (fun n21 h => ?_)
      refine lv_iload_n hx hb d_Mo_sendAgain_24 rfl (lv_at hl 2 rfl) ?_
      refine lv_aload_n hx hb d_Mo_sendAgain_25 rfl (lv_at hl 0 rfl) ?_
      refine ob_getR (k := 12) Cx hP ck_11 rfl w_f_Mo_42 d_Mo_sendAgain_26 h (fun n26 h => ?_)
      refine lv_bipush (v := 64) hx hb d_Mo_sendAgain_29 (by decide) ?_
      refine lv_iload_n hx hb d_Mo_sendAgain_31 rfl (lv_at hl 1 rfl) ?_
      refine lv_imul hx hb d_Mo_sendAgain_32 ?_
      refine lv_iload_n hx hb d_Mo_sendAgain_33 rfl (lv_at hl 2 rfl) ?_
      refine lv_iadd hx hb d_Mo_sendAgain_34 ?_
      refine ob_aldI Cx hP d_Mo_sendAgain_35 h (fun x35 h => ?_)
      refine ob_astI Cx hP hS d_Mo_sendAgain_36 h (fun t36 H locs h hP hS => ?_)
      refine lv_iinc (v := (v2 + (1 : Int32))) (lv' := [(2, .int (v2 + (1 : Int32))), (0, .ref (b + v0)), (1, .int v1)]) hx hb d_Mo_sendAgain_37 hl (k := 2) rfl rfl (by decide) rfl (fun ls hl => ?_)
      refine lv_goto (tgt := 12) hx hb d_Mo_sendAgain_40 (by decide) ?_
      exact ih t36 H locs ls v0 v1 (v2 + (1 : Int32)) hP hS (lv_sub hl [1, 2, 0] rfl) h
theorem g_Mo_sendAgain (v0 : Nat) (v1 : Int32) {t : ob_S} {out : ob_S} (h : X_Mo_sendAgain v0 v1 t = some out) : v0 < ob_n t ∧ ob_k t v0 = 11 := by
  unfold X_Mo_sendAgain ob_this at h
  by_cases q : v0 < ob_n t ∧ ob_k t v0 = 11
  · exact q
  · rw [if_neg q] at h
    cases h
set_option maxHeartbeats 4000000 in
set_option maxRecDepth 100000 in
theorem c_Mo_sendAgain {l : Launch} {b : Nat} {D : va_G} {cA : Nat → ClassId} {adK adV : Nat → Nat} (v0 : Nat) (v1 : Int32) {t : ob_S} {out : ob_S} (h : X_Mo_sendAgain v0 v1 t = some out) : Met l y_Mo_sendAgain (Cond.code y_Mo_sendAgain cb_Mo_sendAgain 3 none :: ob_T) { frames := 1, cells := 0, slots := 0, locals := 22 } (ob_Pre b D cA adK adV [.ref (b + v0), .int v1] t) (ob_Qv b D cA out) 0 0 (ob_A b) := by
  refine ob_met (by decide) (Nat.le_of_ble_eq_true rfl) ?_
  intro p e R s m args below meth c ls Cx hP hS hl
  have hl : lv_has ls 3 [(0, .ref (b + v0)), (1, .int v1)] := hl
  have hx := Cx.1.1
  have hb := Cx.1.2.1
  have hg := g_Mo_sendAgain v0 v1 h
  unfold X_Mo_sendAgain ob_this at h
  rw [if_pos hg] at h
  obtain ⟨H, hH⟩ : ∃ H, H = s.heap := ⟨_, rfl⟩
  obtain ⟨locs, hL⟩ : ∃ locs : List Loc, locs = [] := ⟨_, rfl⟩
  rw [← hH] at hP
  have hS : va_S (ob_A b) s.heap H locs := by rw [hH, hL]; exact hS
  suffices hW : W p l e R s m args below meth c H locs 0 0 (MQ below (ob_Qv b D cA out) args s 0 0 (ob_A b)) (F0 m 0 ls []) by rw [hH, hL] at hW; exact hW
  refine lv_aload_n hx hb d_Mo_sendAgain_0 rfl (lv_at hl 0 rfl) ?_
  refine lv_aload_n hx hb d_Mo_sendAgain_1 rfl (lv_at hl 0 rfl) ?_
  refine ob_getR (k := 13) Cx hP ck_11 rfl w_f_Mo_45 d_Mo_sendAgain_2 h (fun n2 h => ?_)
  refine lv_iload_n hx hb d_Mo_sendAgain_5 rfl (lv_at hl 1 rfl) ?_
  refine ob_aldI Cx hP d_Mo_sendAgain_6 h (fun x6 h => ?_)
  refine ob_putI (k := 45) Cx hP hS ck_11 rfl rfl rfl w_f_Mo_138 d_Mo_sendAgain_7 h (fun t7 H locs h hP hS => ?_)
  refine lv_iconst (v := 0) hx hb d_Mo_sendAgain_10 (by decide) ?_
  refine lv_istore_n (lv' := [(2, .int (0 : Int32)), (0, .ref (b + v0)), (1, .int v1)]) hx hb d_Mo_sendAgain_11 rfl hl (by decide) rfl (fun ls hl => ?_)
  exact tB_Mo_sendAgain_12 Cx ob_fu t7 H locs ls v0 v1 (0 : Int32) hP hS (lv_sub hl [1, 2, 0] rfl) h
theorem g_Mo_bare (v0 : Nat) (v1 : Int32) (v2 : Int32) (v3 : Int32) {t : ob_S} {out : ob_S} (h : X_Mo_bare v0 v1 v2 v3 t = some out) : v0 < ob_n t ∧ ob_k t v0 = 11 := by
  unfold X_Mo_bare ob_this at h
  by_cases q : v0 < ob_n t ∧ ob_k t v0 = 11
  · exact q
  · rw [if_neg q] at h
    cases h
set_option maxHeartbeats 4000000 in
set_option maxRecDepth 100000 in
theorem c_Mo_bare {l : Launch} {b : Nat} {D : va_G} {cA : Nat → ClassId} {adK adV : Nat → Nat} (v0 : Nat) (v1 : Int32) (v2 : Int32) (v3 : Int32) {t : ob_S} {out : ob_S} (h : X_Mo_bare v0 v1 v2 v3 t = some out) : Met l y_Mo_bare (Cond.code y_Mo_bare cb_Mo_bare 4 none :: ob_T) { frames := 2, cells := 0, slots := 0, locals := 44 } (ob_Pre b D cA adK adV [.ref (b + v0), .int v1, .int v2, .int v3] t) (ob_Qv b D cA out) 0 0 (ob_A b) := by
  refine ob_met (by decide) (Nat.le_of_ble_eq_true rfl) ?_
  intro p e R s m args below meth c ls Cx hP hS hl
  have hl : lv_has ls 4 [(0, .ref (b + v0)), (1, .int v1), (2, .int v2), (3, .int v3)] := hl
  have hx := Cx.1.1
  have hb := Cx.1.2.1
  have hg := g_Mo_bare v0 v1 v2 v3 h
  unfold X_Mo_bare ob_this at h
  rw [if_pos hg] at h
  obtain ⟨H, hH⟩ : ∃ H, H = s.heap := ⟨_, rfl⟩
  obtain ⟨locs, hL⟩ : ∃ locs : List Loc, locs = [] := ⟨_, rfl⟩
  rw [← hH] at hP
  have hS : va_S (ob_A b) s.heap H locs := by rw [hH, hL]; exact hS
  suffices hW : W p l e R s m args below meth c H locs 0 0 (MQ below (ob_Qv b D cA out) args s 0 0 (ob_A b)) (F0 m 0 ls []) by rw [hH, hL] at hW; exact hW
  refine lv_aload_n hx hb d_Mo_bare_0 rfl (lv_at hl 0 rfl) ?_
  refine lv_iload_n hx hb d_Mo_bare_1 rfl (lv_at hl 1 rfl) ?_
  refine lv_iconst (v := 0) hx hb d_Mo_bare_2 (by decide) ?_
  refine lv_iload_n hx hb d_Mo_bare_3 rfl (lv_at hl 2 rfl) ?_
  refine ob_cVv (nA := 3) (As := [.int v1, .int (0 : Int32), .int v2]) (rest := []) Cx hl.1 hP hS (fun o ho => c_Mo_begin v0 v1 (0 : Int32) v2 ho) (fun o ho => g_Mo_begin v0 v1 (0 : Int32) v2 ho) (by decide) (rfl : ob_cl[11]? = _) mv_Mo_begin w_m_Mo_162 rfl (by decide +kernel) ⟨rfl, rfl⟩ ⟨by decide, by decide⟩ (Nat.le_of_ble_eq_true rfl) rfl d_Mo_bare_4 h (fun t4 H locs h hP hS => ?_)
  refine lv_aload_n hx hb d_Mo_bare_7 rfl (lv_at hl 0 rfl) ?_
  refine lv_iload_n hx hb d_Mo_bare_8 rfl (lv_at hl 3 rfl) ?_
  refine ob_cVv (nA := 1) (As := [.int v3]) (rest := []) Cx hl.1 hP hS (fun o ho => c_Mo_send v0 v3 ho) (fun o ho => g_Mo_send v0 v3 ho) (by decide) (rfl : ob_cl[11]? = _) mv_Mo_send w_m_Mo_159 rfl (by decide +kernel) ⟨rfl, rfl⟩ ⟨by decide, by decide⟩ (Nat.le_of_ble_eq_true rfl) rfl d_Mo_bare_9 h (fun t9 H locs h hP hS => ?_)
  exact ob_vret Cx hP hS d_Mo_bare_12 h
set_option maxHeartbeats 4000000 in
set_option maxRecDepth 100000 in
theorem tB_Mo_readNumber_145 {p : Program} {l : Launch} {e : Env} {R : Room} {s : State} {m : MethodId} {args : Array Value} {below : List Frame} {meth : Method} {c : Code} {b : Nat} {D : va_G} {cA : Nat → ClassId} {adK adV : Nat → Nat} {out : (Int32 × ob_S)} (Cx : ob_C p R s m args meth c cb_Mo_readNumber 6 "ObservedBlocksModel" (some .boolean) b D cA adK adV 0 0) : ∀ (t : ob_S) (H : Heap) (locs : List Loc) (ls : Array Slot), ob_H b D cA t H → va_S (ob_A b) s.heap H locs → lv_has ls 6 [] → B_Mo_readNumber_145 t = some out → W p l e R s m args below meth c H locs 0 0 (MQ below (ob_Qi b D cA out) args s 0 0 (ob_A b)) (F0 m 145 ls []) := by
  have hx := Cx.1.1
  have hb := Cx.1.2.1
  intro t H locs ls  hP hS hl h
  unfold B_Mo_readNumber_145 at h
  refine lv_iconst (v := 0) hx hb d_Mo_readNumber_145 (by decide) ?_
  exact ob_zret Cx hP hS d_Mo_readNumber_146 h
set_option maxHeartbeats 4000000 in
set_option maxRecDepth 100000 in
theorem tB_Mo_readNumber_116 {p : Program} {l : Launch} {e : Env} {R : Room} {s : State} {m : MethodId} {args : Array Value} {below : List Frame} {meth : Method} {c : Code} {b : Nat} {D : va_G} {cA : Nat → ClassId} {adK adV : Nat → Nat} {out : (Int32 × ob_S)} (Cx : ob_C p R s m args meth c cb_Mo_readNumber 6 "ObservedBlocksModel" (some .boolean) b D cA adK adV 0 0) : ∀ (t : ob_S) (H : Heap) (locs : List Loc) (ls : Array Slot) (v4 : Int32) (v5 : Int32) (s0 : Int32) (s1 : Nat), ob_H b D cA t H → va_S (ob_A b) s.heap H locs → lv_has ls 6 [(4, .int v4), (5, .int v5)] → B_Mo_readNumber_116 v4 v5 s0 s1 t = some out → W p l e R s m args below meth c H locs 0 0 (MQ below (ob_Qi b D cA out) args s 0 0 (ob_A b)) (F0 m 116 ls [.int s0, .ref (b + s1)]) := by
  have hx := Cx.1.1
  have hb := Cx.1.2.1
  intro t H locs ls v4 v5 s0 s1 hP hS hl h
  unfold B_Mo_readNumber_116 at h
  refine ob_putI (k := 58) Cx hP hS ck_11 rfl rfl rfl w_f_Mo_172 d_Mo_readNumber_116 h (fun t116 H locs h hP hS => ?_)
  refine lv_iload hx hb d_Mo_readNumber_119 (lv_at hl 1 rfl) ?_
  refine lv_if_eq (tgt := 145) hx hb d_Mo_readNumber_121 (by decide) (fun hq => ?_) (fun hq => ?_)
  · rw [if_pos hq] at h
    exact tB_Mo_readNumber_145 Cx t116 H locs ls hP hS (lv_sub hl [] rfl) h
  · rw [if_neg hq] at h
    refine lv_iload hx hb d_Mo_readNumber_124 (lv_at hl 0 rfl) ?_
    refine lv_sipush (v := 1023) hx hb d_Mo_readNumber_126 (by decide) ?_
    refine lv_icmp_gt (tgt := 145) hx hb d_Mo_readNumber_129 (by decide) (fun hq => ?_) (fun hq => ?_)
    · rw [if_pos hq] at h
      exact tB_Mo_readNumber_145 Cx t116 H locs ls hP hS (lv_sub hl [] rfl) h
    · rw [if_neg hq] at h
      refine lv_iload hx hb d_Mo_readNumber_132 (lv_at hl 0 rfl) ?_
      refine lv_bipush (v := 8) hx hb d_Mo_readNumber_134 (by decide) ?_
      refine lv_irem hx hb d_Mo_readNumber_136 (by decide) ?_
      refine lv_iconst (v := 2) hx hb d_Mo_readNumber_137 (by decide) ?_
      refine lv_icmp_ge (tgt := 145) hx hb d_Mo_readNumber_138 (by decide) (fun hq => ?_) (fun hq => ?_)
      · rw [if_pos hq] at h
        exact tB_Mo_readNumber_145 Cx t116 H locs ls hP hS (lv_sub hl [] rfl) h
      · rw [if_neg hq] at h
        refine lv_iconst (v := 1) hx hb d_Mo_readNumber_141 (by decide) ?_
        refine lv_goto (tgt := 146) hx hb d_Mo_readNumber_142 (by decide) ?_
        exact ob_zret Cx hP hS d_Mo_readNumber_146 h
set_option maxHeartbeats 4000000 in
set_option maxRecDepth 100000 in
theorem tB_Mo_readNumber_97 {p : Program} {l : Launch} {e : Env} {R : Room} {s : State} {m : MethodId} {args : Array Value} {below : List Frame} {meth : Method} {c : Code} {b : Nat} {D : va_G} {cA : Nat → ClassId} {adK adV : Nat → Nat} {out : (Int32 × ob_S)} (Cx : ob_C p R s m args meth c cb_Mo_readNumber 6 "ObservedBlocksModel" (some .boolean) b D cA adK adV 0 0) : ∀ (t : ob_S) (H : Heap) (locs : List Loc) (ls : Array Slot) (v0 : Nat) (v1 : Int32) (v4 : Int32) (v5 : Int32) (s0 : Int32) (s1 : Nat), ob_H b D cA t H → va_S (ob_A b) s.heap H locs → lv_has ls 6 [(0, .ref (b + v0)), (1, .int v1), (4, .int v4), (5, .int v5)] → B_Mo_readNumber_97 v0 v1 v4 v5 s0 s1 t = some out → W p l e R s m args below meth c H locs 0 0 (MQ below (ob_Qi b D cA out) args s 0 0 (ob_A b)) (F0 m 97 ls [.int s0, .ref (b + s1)]) := by
  have hx := Cx.1.1
  have hb := Cx.1.2.1
  intro t H locs ls v0 v1 v4 v5 s0 s1 hP hS hl h
  unfold B_Mo_readNumber_97 at h
  refine ob_putI (k := 57) Cx hP hS ck_11 rfl rfl rfl w_f_Mo_169 d_Mo_readNumber_97 h (fun t97 H locs h hP hS => ?_)
  refine lv_aload_n hx hb d_Mo_readNumber_100 rfl (lv_at hl 0 rfl) ?_
  refine lv_iload_n hx hb d_Mo_readNumber_101 rfl (lv_at hl 1 rfl) ?_
  refine lv_bipush (v := 27) hx hb d_Mo_readNumber_102 (by decide) ?_
  refine lv_icmp_ne (tgt := 112) hx hb d_Mo_readNumber_104 (by decide) (fun hq => ?_) (fun hq => ?_)
  · rw [if_pos hq] at h
    refine lv_aload_n hx hb d_Mo_readNumber_112 rfl (lv_at hl 0 rfl) ?_
    refine ob_getI (k := 58) Cx hP ck_11 rfl w_f_Mo_172 d_Mo_readNumber_113 h (fun x113 h => ?_)
    exact tB_Mo_readNumber_116 Cx t97 H locs ls v4 v5 x113 v0 hP hS (lv_sub hl [2, 3] rfl) h
  · rw [if_neg (fun z => z hq)] at h
    refine lv_iload hx hb d_Mo_readNumber_107 (lv_at hl 2 rfl) ?_
    refine lv_goto (tgt := 116) hx hb d_Mo_readNumber_109 (by decide) ?_
    exact tB_Mo_readNumber_116 Cx t97 H locs ls v4 v5 v4 v0 hP hS (lv_sub hl [2, 3] rfl) h
set_option maxHeartbeats 4000000 in
set_option maxRecDepth 100000 in
theorem tB_Mo_readNumber_64 {p : Program} {l : Launch} {e : Env} {R : Room} {s : State} {m : MethodId} {args : Array Value} {below : List Frame} {meth : Method} {c : Code} {b : Nat} {D : va_G} {cA : Nat → ClassId} {adK adV : Nat → Nat} {out : (Int32 × ob_S)} (Cx : ob_C p R s m args meth c cb_Mo_readNumber 6 "ObservedBlocksModel" (some .boolean) b D cA adK adV 0 0) : ∀ (t : ob_S) (H : Heap) (locs : List Loc) (ls : Array Slot) (v0 : Nat) (v1 : Int32) (v4 : Int32) (s0 : Int32), ob_H b D cA t H → va_S (ob_A b) s.heap H locs → lv_has ls 6 [(0, .ref (b + v0)), (1, .int v1), (4, .int v4)] → B_Mo_readNumber_64 v0 v1 v4 s0 t = some out → W p l e R s m args below meth c H locs 0 0 (MQ below (ob_Qi b D cA out) args s 0 0 (ob_A b)) (F0 m 64 ls [.int s0]) := by
  have hx := Cx.1.1
  have hb := Cx.1.2.1
  intro t H locs ls v0 v1 v4 s0 hP hS hl h
  unfold B_Mo_readNumber_64 at h
  refine lv_istore (lv' := [(5, .int s0), (0, .ref (b + v0)), (1, .int v1), (4, .int v4)]) hx hb d_Mo_readNumber_64 hl (by decide) rfl (fun ls hl => ?_)
  refine lv_iload_n hx hb d_Mo_readNumber_66 rfl (lv_at hl 2 rfl) ?_
  refine lv_bipush (v := 6) hx hb d_Mo_readNumber_67 (by decide) ?_
  refine lv_icmp_ne (tgt := 81) hx hb d_Mo_readNumber_69 (by decide) (fun hq => ?_) (fun hq => ?_)
  · rw [if_pos hq] at h
    refine lv_aload_n hx hb d_Mo_readNumber_81 rfl (lv_at hl 1 rfl) ?_
    refine lv_iload_n hx hb d_Mo_readNumber_82 rfl (lv_at hl 2 rfl) ?_
    refine lv_bipush (v := 23) hx hb d_Mo_readNumber_83 (by decide) ?_
    refine lv_icmp_ne (tgt := 93) hx hb d_Mo_readNumber_85 (by decide) (fun hq => ?_) (fun hq => ?_)
    · rw [if_pos hq] at h
      refine lv_aload_n hx hb d_Mo_readNumber_93 rfl (lv_at hl 1 rfl) ?_
      refine ob_getI (k := 57) Cx hP ck_11 rfl w_f_Mo_169 d_Mo_readNumber_94 h (fun x94 h => ?_)
      exact tB_Mo_readNumber_97 Cx t H locs ls v0 v1 v4 s0 x94 v0 hP hS (lv_sub hl [1, 2, 3, 0] rfl) h
    · rw [if_neg (fun z => z hq)] at h
      refine lv_iload hx hb d_Mo_readNumber_88 (lv_at hl 3 rfl) ?_
      refine lv_goto (tgt := 97) hx hb d_Mo_readNumber_90 (by decide) ?_
      exact tB_Mo_readNumber_97 Cx t H locs ls v0 v1 v4 s0 v4 v0 hP hS (lv_sub hl [1, 2, 3, 0] rfl) h
  · rw [if_neg (fun z => z hq)] at h
    refine lv_aload_n hx hb d_Mo_readNumber_72 rfl (lv_at hl 1 rfl) ?_
    refine lv_iload hx hb d_Mo_readNumber_73 (lv_at hl 3 rfl) ?_
    refine ob_putI (k := 53) Cx hP hS ck_11 rfl rfl rfl w_f_Mo_166 d_Mo_readNumber_75 h (fun t75 H locs h hP hS => ?_)
    refine lv_iload hx hb d_Mo_readNumber_78 (lv_at hl 0 rfl) ?_
    exact ob_zret Cx hP hS d_Mo_readNumber_80 h
set_option maxHeartbeats 4000000 in
set_option maxRecDepth 100000 in
theorem tB_Mo_readNumber_59 {p : Program} {l : Launch} {e : Env} {R : Room} {s : State} {m : MethodId} {args : Array Value} {below : List Frame} {meth : Method} {c : Code} {b : Nat} {D : va_G} {cA : Nat → ClassId} {adK adV : Nat → Nat} {out : (Int32 × ob_S)} (Cx : ob_C p R s m args meth c cb_Mo_readNumber 6 "ObservedBlocksModel" (some .boolean) b D cA adK adV 0 0) : ∀ (t : ob_S) (H : Heap) (locs : List Loc) (ls : Array Slot) (v0 : Nat) (v1 : Int32) (v4 : Int32), ob_H b D cA t H → va_S (ob_A b) s.heap H locs → lv_has ls 6 [(0, .ref (b + v0)), (1, .int v1), (4, .int v4)] → B_Mo_readNumber_59 v0 v1 v4 t = some out → W p l e R s m args below meth c H locs 0 0 (MQ below (ob_Qi b D cA out) args s 0 0 (ob_A b)) (F0 m 59 ls []) := by
  have hx := Cx.1.1
  have hb := Cx.1.2.1
  intro t H locs ls v0 v1 v4 hP hS hl h
  unfold B_Mo_readNumber_59 at h
  refine lv_iconst (v := 1) hx hb d_Mo_readNumber_59 (by decide) ?_
  refine lv_goto (tgt := 64) hx hb d_Mo_readNumber_60 (by decide) ?_
  exact tB_Mo_readNumber_64 Cx t H locs ls v0 v1 v4 (1 : Int32) hP hS (lv_sub hl [0, 1, 2] rfl) h
set_option maxHeartbeats 4000000 in
set_option maxRecDepth 100000 in
theorem tB_Mo_readNumber_63 {p : Program} {l : Launch} {e : Env} {R : Room} {s : State} {m : MethodId} {args : Array Value} {below : List Frame} {meth : Method} {c : Code} {b : Nat} {D : va_G} {cA : Nat → ClassId} {adK adV : Nat → Nat} {out : (Int32 × ob_S)} (Cx : ob_C p R s m args meth c cb_Mo_readNumber 6 "ObservedBlocksModel" (some .boolean) b D cA adK adV 0 0) : ∀ (t : ob_S) (H : Heap) (locs : List Loc) (ls : Array Slot) (v0 : Nat) (v1 : Int32) (v4 : Int32), ob_H b D cA t H → va_S (ob_A b) s.heap H locs → lv_has ls 6 [(0, .ref (b + v0)), (1, .int v1), (4, .int v4)] → B_Mo_readNumber_63 v0 v1 v4 t = some out → W p l e R s m args below meth c H locs 0 0 (MQ below (ob_Qi b D cA out) args s 0 0 (ob_A b)) (F0 m 63 ls []) := by
  have hx := Cx.1.1
  have hb := Cx.1.2.1
  intro t H locs ls v0 v1 v4 hP hS hl h
  unfold B_Mo_readNumber_63 at h
  refine lv_iconst (v := 0) hx hb d_Mo_readNumber_63 (by decide) ?_
  exact tB_Mo_readNumber_64 Cx t H locs ls v0 v1 v4 (0 : Int32) hP hS (lv_sub hl [0, 1, 2] rfl) h
set_option maxHeartbeats 4000000 in
set_option maxRecDepth 100000 in
theorem tB_Mo_readNumber_41 {p : Program} {l : Launch} {e : Env} {R : Room} {s : State} {m : MethodId} {args : Array Value} {below : List Frame} {meth : Method} {c : Code} {b : Nat} {D : va_G} {cA : Nat → ClassId} {adK adV : Nat → Nat} {out : (Int32 × ob_S)} (Cx : ob_C p R s m args meth c cb_Mo_readNumber 6 "ObservedBlocksModel" (some .boolean) b D cA adK adV 0 0) : ∀ (t : ob_S) (H : Heap) (locs : List Loc) (ls : Array Slot) (v0 : Nat) (v1 : Int32) (v2 : Int32) (v3 : Int32) (v4 : Int32), ob_H b D cA t H → va_S (ob_A b) s.heap H locs → lv_has ls 6 [(0, .ref (b + v0)), (1, .int v1), (2, .int v2), (3, .int v3), (4, .int v4)] → B_Mo_readNumber_41 v0 v1 v2 v3 v4 t = some out → W p l e R s m args below meth c H locs 0 0 (MQ below (ob_Qi b D cA out) args s 0 0 (ob_A b)) (F0 m 41 ls []) := by
  have hx := Cx.1.1
  have hb := Cx.1.2.1
  intro t H locs ls v0 v1 v2 v3 v4 hP hS hl h
  unfold B_Mo_readNumber_41 at h
  refine lv_iload_n hx hb d_Mo_readNumber_41 rfl (lv_at hl 3 rfl) ?_
  refine lv_iconst (v := 3) hx hb d_Mo_readNumber_42 (by decide) ?_
  refine lv_icmp_ge (tgt := 63) hx hb d_Mo_readNumber_43 (by decide) (fun hq => ?_) (fun hq => ?_)
  · rw [if_pos hq] at h
    exact tB_Mo_readNumber_63 Cx t H locs ls v0 v1 v4 hP hS (lv_sub hl [0, 1, 4] rfl) h
  · rw [if_neg hq] at h
    refine lv_iload_n hx hb d_Mo_readNumber_46 rfl (lv_at hl 3 rfl) ?_
    refine lv_if_eq (tgt := 59) hx hb d_Mo_readNumber_47 (by decide) (fun hq => ?_) (fun hq => ?_)
    · rw [if_pos hq] at h
      exact tB_Mo_readNumber_59 Cx t H locs ls v0 v1 v4 hP hS (lv_sub hl [0, 1, 4] rfl) h
    · rw [if_neg hq] at h
      refine lv_aload_n hx hb d_Mo_readNumber_50 rfl (lv_at hl 0 rfl) ?_
      refine ob_getR (k := 47) Cx hP ck_11 rfl w_f_Mo_129 d_Mo_readNumber_51 h (fun n51 h => ?_)
      refine lv_iload_n hx hb d_Mo_readNumber_54 rfl (lv_at hl 2 rfl) ?_
      refine ob_aldI Cx hP d_Mo_readNumber_55 h (fun x55 h => ?_)
      refine lv_if_eq (tgt := 63) hx hb d_Mo_readNumber_56 (by decide) (fun hq => ?_) (fun hq => ?_)
      · rw [if_pos hq] at h
        exact tB_Mo_readNumber_63 Cx t H locs ls v0 v1 v4 hP hS (lv_sub hl [0, 1, 4] rfl) h
      · rw [if_neg hq] at h
        exact tB_Mo_readNumber_59 Cx t H locs ls v0 v1 v4 hP hS (lv_sub hl [0, 1, 4] rfl) h
set_option maxHeartbeats 4000000 in
set_option maxRecDepth 100000 in
theorem tB_Mo_readNumber_6 {p : Program} {l : Launch} {e : Env} {R : Room} {s : State} {m : MethodId} {args : Array Value} {below : List Frame} {meth : Method} {c : Code} {b : Nat} {D : va_G} {cA : Nat → ClassId} {adK adV : Nat → Nat} {out : (Int32 × ob_S)} (Cx : ob_C p R s m args meth c cb_Mo_readNumber 6 "ObservedBlocksModel" (some .boolean) b D cA adK adV 0 0) : ∀ (fu : Nat), ∀ (t : ob_S) (H : Heap) (locs : List Loc) (ls : Array Slot) (v0 : Nat) (v1 : Int32) (v2 : Int32) (v3 : Int32) (v4 : Int32) (v5 : Int32), ob_H b D cA t H → va_S (ob_A b) s.heap H locs → lv_has ls 6 [(0, .ref (b + v0)), (1, .int v1), (2, .int v2), (3, .int v3), (4, .int v4), (5, .int v5)] → B_Mo_readNumber_6 fu v0 v1 v2 v3 v4 v5 t = some out → W p l e R s m args below meth c H locs 0 0 (MQ below (ob_Qi b D cA out) args s 0 0 (ob_A b)) (F0 m 6 ls []) := by
  have hx := Cx.1.1
  have hb := Cx.1.2.1
  intro fu
  induction fu with
  | zero =>
    intro t H locs ls v0 v1 v2 v3 v4 v5 hP hS hl h
    cases h
  | succ fu ih =>
    intro t H locs ls v0 v1 v2 v3 v4 v5 hP hS hl h
    rw [B_Mo_readNumber_6] at h
    refine lv_iload hx hb d_Mo_readNumber_6 (lv_at hl 5 rfl) ?_
    refine lv_iload_n hx hb d_Mo_readNumber_8 rfl (lv_at hl 3 rfl) ?_
    refine lv_icmp_ge (tgt := 41) hx hb d_Mo_readNumber_9 (by decide) (fun hq => ?_) (fun hq => ?_)
    · rw [if_pos hq] at h
      exact tB_Mo_readNumber_41 Cx t H locs ls v0 v1 v2 v3 v4 hP hS (lv_sub hl [0, 1, 2, 3, 4] rfl) h
    · rw [if_neg hq] at h
      refine lv_iload_n hx hb d_Mo_readNumber_12 rfl (lv_at hl 3 rfl) ?_
      refine lv_iconst (v := 3) hx hb d_Mo_readNumber_13 (by decide) ?_
      refine lv_icmp_ge (tgt := 41) hx hb d_Mo_readNumber_14 (by decide) (fun hq => ?_) (fun hq => ?_)
      · rw [if_pos hq] at h
        exact tB_Mo_readNumber_41 Cx t H locs ls v0 v1 v2 v3 v4 hP hS (lv_sub hl [0, 1, 2, 3, 4] rfl) h
      · rw [if_neg hq] at h
        refine lv_sipush (v := 256) hx hb d_Mo_readNumber_17 (by decide) ?_
        refine lv_iload hx hb d_Mo_readNumber_20 (lv_at hl 4 rfl) ?_
        refine lv_imul hx hb d_Mo_readNumber_22 ?_
        refine lv_aload_n hx hb d_Mo_readNumber_23 rfl (lv_at hl 0 rfl) ?_
        refine ob_getR (k := 47) Cx hP ck_11 rfl w_f_Mo_129 d_Mo_readNumber_24 h (fun n24 h => ?_)
        refine lv_iload_n hx hb d_Mo_readNumber_27 rfl (lv_at hl 2 rfl) ?_
        refine lv_iload hx hb d_Mo_readNumber_28 (lv_at hl 5 rfl) ?_
        refine lv_iadd hx hb d_Mo_readNumber_30 ?_
        refine ob_aldI Cx hP d_Mo_readNumber_31 h (fun x31 h => ?_)
        refine lv_iadd hx hb d_Mo_readNumber_32 ?_
        refine lv_istore (lv' := [(4, .int (((256 : Int32) * v4) + x31)), (0, .ref (b + v0)), (1, .int v1), (2, .int v2), (3, .int v3), (5, .int v5)]) hx hb d_Mo_readNumber_33 hl (by decide) rfl (fun ls hl => ?_)
        refine lv_iinc (v := (v5 + (1 : Int32))) (lv' := [(5, .int (v5 + (1 : Int32))), (4, .int (((256 : Int32) * v4) + x31)), (0, .ref (b + v0)), (1, .int v1), (2, .int v2), (3, .int v3)]) hx hb d_Mo_readNumber_35 hl (k := 5) rfl rfl (by decide) rfl (fun ls hl => ?_)
        refine lv_goto (tgt := 6) hx hb d_Mo_readNumber_38 (by decide) ?_
        exact ih t H locs ls v0 v1 v2 v3 (((256 : Int32) * v4) + x31) (v5 + (1 : Int32)) hP hS (lv_sub hl [2, 3, 4, 5, 1, 0] rfl) h
theorem g_Mo_readNumber (v0 : Nat) (v1 : Int32) (v2 : Int32) (v3 : Int32) {t : ob_S} {out : (Int32 × ob_S)} (h : X_Mo_readNumber v0 v1 v2 v3 t = some out) : v0 < ob_n t ∧ ob_k t v0 = 11 := by
  unfold X_Mo_readNumber ob_this at h
  by_cases q : v0 < ob_n t ∧ ob_k t v0 = 11
  · exact q
  · rw [if_neg q] at h
    cases h
set_option maxHeartbeats 4000000 in
set_option maxRecDepth 100000 in
theorem c_Mo_readNumber {l : Launch} {b : Nat} {D : va_G} {cA : Nat → ClassId} {adK adV : Nat → Nat} (v0 : Nat) (v1 : Int32) (v2 : Int32) (v3 : Int32) {t : ob_S} {out : (Int32 × ob_S)} (h : X_Mo_readNumber v0 v1 v2 v3 t = some out) : Met l y_Mo_readNumber (Cond.code y_Mo_readNumber cb_Mo_readNumber 6 (some .boolean) :: ob_T) { frames := 0, cells := 0, slots := 0, locals := 0 } (ob_Pre b D cA adK adV [.ref (b + v0), .int v1, .int v2, .int v3] t) (ob_Qi b D cA out) 0 0 (ob_A b) := by
  refine ob_met (by decide) (Nat.le_of_ble_eq_true rfl) ?_
  intro p e R s m args below meth c ls Cx hP hS hl
  have hl : lv_has ls 6 [(0, .ref (b + v0)), (1, .int v1), (2, .int v2), (3, .int v3)] := hl
  have hx := Cx.1.1
  have hb := Cx.1.2.1
  have hg := g_Mo_readNumber v0 v1 v2 v3 h
  unfold X_Mo_readNumber ob_this at h
  rw [if_pos hg] at h
  obtain ⟨H, hH⟩ : ∃ H, H = s.heap := ⟨_, rfl⟩
  obtain ⟨locs, hL⟩ : ∃ locs : List Loc, locs = [] := ⟨_, rfl⟩
  rw [← hH] at hP
  have hS : va_S (ob_A b) s.heap H locs := by rw [hH, hL]; exact hS
  suffices hW : W p l e R s m args below meth c H locs 0 0 (MQ below (ob_Qi b D cA out) args s 0 0 (ob_A b)) (F0 m 0 ls []) by rw [hH, hL] at hW; exact hW
  refine lv_iconst (v := 0) hx hb d_Mo_readNumber_0 (by decide) ?_
  refine lv_istore (lv' := [(4, .int (0 : Int32)), (0, .ref (b + v0)), (1, .int v1), (2, .int v2), (3, .int v3)]) hx hb d_Mo_readNumber_1 hl (by decide) rfl (fun ls hl => ?_)
  refine lv_iconst (v := 0) hx hb d_Mo_readNumber_3 (by decide) ?_
  refine lv_istore (lv' := [(5, .int (0 : Int32)), (4, .int (0 : Int32)), (0, .ref (b + v0)), (1, .int v1), (2, .int v2), (3, .int v3)]) hx hb d_Mo_readNumber_4 hl (by decide) rfl (fun ls hl => ?_)
  exact tB_Mo_readNumber_6 Cx ob_fu t H locs ls v0 v1 v2 v3 (0 : Int32) (0 : Int32) hP hS (lv_sub hl [2, 3, 4, 5, 1, 0] rfl) h
set_option maxHeartbeats 4000000 in
set_option maxRecDepth 100000 in
theorem tB_Mo_readOptions_78 {p : Program} {l : Launch} {e : Env} {R : Room} {s : State} {m : MethodId} {args : Array Value} {below : List Frame} {meth : Method} {c : Code} {b : Nat} {D : va_G} {cA : Nat → ClassId} {adK adV : Nat → Nat} {out : (Int32 × ob_S)} (Cx : ob_C p R s m args meth c cb_Mo_readOptions 8 "ObservedBlocksModel" (some .int) b D cA adK adV 1 25) : ∀ (t : ob_S) (H : Heap) (locs : List Loc) (ls : Array Slot), ob_H b D cA t H → va_S (ob_A b) s.heap H locs → lv_has ls 8 [] → B_Mo_readOptions_78 t = some out → W p l e R s m args below meth c H locs 0 0 (MQ below (ob_Qi b D cA out) args s 0 0 (ob_A b)) (F0 m 78 ls []) := by
  have hx := Cx.1.1
  have hb := Cx.1.2.1
  intro t H locs ls  hP hS hl h
  unfold B_Mo_readOptions_78 at h
  refine lv_iconst (v := -1) hx hb d_Mo_readOptions_78 (by decide) ?_
  exact ob_iret Cx hP hS d_Mo_readOptions_79 h
set_option maxHeartbeats 4000000 in
set_option maxRecDepth 100000 in
theorem tB_Mo_readOptions_176 {p : Program} {l : Launch} {e : Env} {R : Room} {s : State} {m : MethodId} {args : Array Value} {below : List Frame} {meth : Method} {c : Code} {b : Nat} {D : va_G} {cA : Nat → ClassId} {adK adV : Nat → Nat} {out : (Int32 × ob_S)} (Cx : ob_C p R s m args meth c cb_Mo_readOptions 8 "ObservedBlocksModel" (some .int) b D cA adK adV 1 25) : ∀ (t : ob_S) (H : Heap) (locs : List Loc) (ls : Array Slot), ob_H b D cA t H → va_S (ob_A b) s.heap H locs → lv_has ls 8 [] → B_Mo_readOptions_176 t = some out → W p l e R s m args below meth c H locs 0 0 (MQ below (ob_Qi b D cA out) args s 0 0 (ob_A b)) (F0 m 176 ls []) := by
  have hx := Cx.1.1
  have hb := Cx.1.2.1
  intro t H locs ls  hP hS hl h
  unfold B_Mo_readOptions_176 at h
  refine lv_iconst (v := -1) hx hb d_Mo_readOptions_176 (by decide) ?_
  exact ob_iret Cx hP hS d_Mo_readOptions_177 h
set_option maxHeartbeats 4000000 in
set_option maxRecDepth 100000 in
theorem tB_Mo_readOptions_241 {p : Program} {l : Launch} {e : Env} {R : Room} {s : State} {m : MethodId} {args : Array Value} {below : List Frame} {meth : Method} {c : Code} {b : Nat} {D : va_G} {cA : Nat → ClassId} {adK adV : Nat → Nat} {out : (Int32 × ob_S)} (Cx : ob_C p R s m args meth c cb_Mo_readOptions 8 "ObservedBlocksModel" (some .int) b D cA adK adV 1 25) {k4 : Nat → Int32 → Int32 → ob_S → Option (Int32 × ob_S)} (hk4 : ∀ (t : ob_S) (H : Heap) (locs : List Loc) (ls : Array Slot) (v0 : Nat) (v2 : Int32) (v3 : Int32), ob_H b D cA t H → va_S (ob_A b) s.heap H locs → lv_has ls 8 [(0, .ref (b + v0)), (2, .int v2), (3, .int v3)] → k4 v0 v2 v3 t = some out → W p l e R s m args below meth c H locs 0 0 (MQ below (ob_Qi b D cA out) args s 0 0 (ob_A b)) (F0 m 4 ls [])) : ∀ (t : ob_S) (H : Heap) (locs : List Loc) (ls : Array Slot) (v0 : Nat) (v2 : Int32) (v3 : Int32) (v5 : Int32), ob_H b D cA t H → va_S (ob_A b) s.heap H locs → lv_has ls 8 [(0, .ref (b + v0)), (2, .int v2), (3, .int v3), (5, .int v5)] → B_Mo_readOptions_241 k4 v0 v2 v3 v5 t = some out → W p l e R s m args below meth c H locs 0 0 (MQ below (ob_Qi b D cA out) args s 0 0 (ob_A b)) (F0 m 241 ls []) := by
  have hx := Cx.1.1
  have hb := Cx.1.2.1
  intro t H locs ls v0 v2 v3 v5 hP hS hl h
  unfold B_Mo_readOptions_241 at h
  refine lv_iload_n hx hb d_Mo_readOptions_241 rfl (lv_at hl 1 rfl) ?_
  refine lv_iload hx hb d_Mo_readOptions_242 (lv_at hl 3 rfl) ?_
  refine lv_iadd hx hb d_Mo_readOptions_244 ?_
  refine lv_istore_n (lv' := [(2, .int (v2 + v5)), (0, .ref (b + v0)), (3, .int v3), (5, .int v5)]) hx hb d_Mo_readOptions_245 rfl hl (by decide) rfl (fun ls hl => ?_)
  refine lv_goto (tgt := 4) hx hb d_Mo_readOptions_246 (by decide) ?_
  exact hk4 t H locs ls v0 (v2 + v5) v3 hP hS (lv_sub hl [1, 0, 2] rfl) h
set_option maxHeartbeats 4000000 in
set_option maxRecDepth 100000 in
theorem tB_Mo_readOptions_165 {p : Program} {l : Launch} {e : Env} {R : Room} {s : State} {m : MethodId} {args : Array Value} {below : List Frame} {meth : Method} {c : Code} {b : Nat} {D : va_G} {cA : Nat → ClassId} {adK adV : Nat → Nat} {out : (Int32 × ob_S)} (Cx : ob_C p R s m args meth c cb_Mo_readOptions 8 "ObservedBlocksModel" (some .int) b D cA adK adV 1 25) {k4 : Nat → Int32 → Int32 → ob_S → Option (Int32 × ob_S)} (hk4 : ∀ (t : ob_S) (H : Heap) (locs : List Loc) (ls : Array Slot) (v0 : Nat) (v2 : Int32) (v3 : Int32), ob_H b D cA t H → va_S (ob_A b) s.heap H locs → lv_has ls 8 [(0, .ref (b + v0)), (2, .int v2), (3, .int v3)] → k4 v0 v2 v3 t = some out → W p l e R s m args below meth c H locs 0 0 (MQ below (ob_Qi b D cA out) args s 0 0 (ob_A b)) (F0 m 4 ls [])) : ∀ (t : ob_S) (H : Heap) (locs : List Loc) (ls : Array Slot) (v0 : Nat) (v2 : Int32) (v3 : Int32) (v5 : Int32), ob_H b D cA t H → va_S (ob_A b) s.heap H locs → lv_has ls 8 [(0, .ref (b + v0)), (2, .int v2), (3, .int v3), (5, .int v5)] → B_Mo_readOptions_165 k4 v0 v2 v3 v5 t = some out → W p l e R s m args below meth c H locs 0 0 (MQ below (ob_Qi b D cA out) args s 0 0 (ob_A b)) (F0 m 165 ls []) := by
  have hx := Cx.1.1
  have hb := Cx.1.2.1
  intro t H locs ls v0 v2 v3 v5 hP hS hl h
  unfold B_Mo_readOptions_165 at h
  refine lv_iload_n hx hb d_Mo_readOptions_165 rfl (lv_at hl 1 rfl) ?_
  refine lv_iload hx hb d_Mo_readOptions_166 (lv_at hl 3 rfl) ?_
  refine lv_iadd hx hb d_Mo_readOptions_168 ?_
  refine lv_aload_n hx hb d_Mo_readOptions_169 rfl (lv_at hl 0 rfl) ?_
  refine ob_getI (k := 48) Cx hP ck_11 rfl w_f_Mo_175 d_Mo_readOptions_170 h (fun x170 h => ?_)
  refine lv_icmp_le (tgt := 178) hx hb d_Mo_readOptions_173 (by decide) (fun hq => ?_) (fun hq => ?_)
  · rw [if_pos hq] at h
    refine lv_iload_n hx hb d_Mo_readOptions_178 rfl (lv_at hl 2 rfl) ?_
    refine lv_bipush (v := 11) hx hb d_Mo_readOptions_179 (by decide) ?_
    refine lv_icmp_ne (tgt := 228) hx hb d_Mo_readOptions_181 (by decide) (fun hq => ?_) (fun hq => ?_)
    · rw [if_pos hq] at h
      refine lv_aload_n hx hb d_Mo_readOptions_228 rfl (lv_at hl 0 rfl) ?_
      refine lv_iload_n hx hb d_Mo_readOptions_229 rfl (lv_at hl 2 rfl) ?_
      refine lv_iload_n hx hb d_Mo_readOptions_230 rfl (lv_at hl 1 rfl) ?_
      refine lv_iload hx hb d_Mo_readOptions_231 (lv_at hl 3 rfl) ?_
      refine ob_cVi (nA := 3) (As := [.int v3, .int v2, .int v5]) (rest := []) Cx hl.1 hP hS (fun o ho => c_Mo_readNumber v0 v3 v2 v5 ho) (fun o ho => g_Mo_readNumber v0 v3 v2 v5 ho) (by decide) (rfl : ob_cl[11]? = _) mv_Mo_readNumber w_m_Mo_181 rfl (by decide +kernel) ⟨rfl, rfl⟩ ⟨by decide, by decide⟩ (Nat.le_of_ble_eq_true rfl) rfl d_Mo_readOptions_233 h (fun x233 t233 H locs h hP hS => ?_)
      refine lv_if_ne (tgt := 241) hx hb d_Mo_readOptions_236 (by decide) (fun hq => ?_) (fun hq => ?_)
      · rw [if_pos hq] at h
        exact tB_Mo_readOptions_241 Cx hk4 t233 H locs ls v0 v2 v3 v5 hP hS (lv_sub hl [0, 1, 2, 3] rfl) h
      · rw [if_neg (fun z => z hq)] at h
        refine lv_iconst (v := -1) hx hb d_Mo_readOptions_239 (by decide) ?_
        exact ob_iret Cx hP hS d_Mo_readOptions_240 h
    · rw [if_neg (fun z => z hq)] at h
      refine lv_aload_n hx hb d_Mo_readOptions_184 rfl (lv_at hl 0 rfl) ?_
      refine ob_getI (k := 54) Cx hP ck_11 rfl w_f_Mo_178 d_Mo_readOptions_185 h (fun x185 h => ?_)
      refine lv_iconst (v := 2) hx hb d_Mo_readOptions_188 (by decide) ?_
      refine lv_icmp_ne (tgt := 194) hx hb d_Mo_readOptions_189 (by decide) (fun hq => ?_) (fun hq => ?_)
      · rw [if_pos hq] at h
        refine lv_aload_n hx hb d_Mo_readOptions_194 rfl (lv_at hl 0 rfl) ?_
        refine ob_getR (k := 55) Cx hP ck_11 rfl w_f_Mo_132 d_Mo_readOptions_195 h (fun n195 h => ?_)
        refine lv_aload_n hx hb d_Mo_readOptions_198 rfl (lv_at hl 0 rfl) ?_
        refine ob_getI (k := 54) Cx hP ck_11 rfl w_f_Mo_178 d_Mo_readOptions_199 h (fun x199 h => ?_)
        refine lv_iload_n hx hb d_Mo_readOptions_202 rfl (lv_at hl 1 rfl) ?_
        refine ob_astI Cx hP hS d_Mo_readOptions_203 h (fun t203 H locs h hP hS => ?_)
        refine lv_aload_n hx hb d_Mo_readOptions_204 rfl (lv_at hl 0 rfl) ?_
        refine ob_getR (k := 56) Cx hP ck_11 rfl w_f_Mo_135 d_Mo_readOptions_205 h (fun n205 h => ?_)
        refine lv_aload_n hx hb d_Mo_readOptions_208 rfl (lv_at hl 0 rfl) ?_
        refine ob_getI (k := 54) Cx hP ck_11 rfl w_f_Mo_178 d_Mo_readOptions_209 h (fun x209 h => ?_)
        refine lv_iload hx hb d_Mo_readOptions_212 (lv_at hl 3 rfl) ?_
        refine ob_astI Cx hP hS d_Mo_readOptions_214 h (fun t214 H locs h hP hS => ?_)
        refine lv_aload_n hx hb d_Mo_readOptions_215 rfl (lv_at hl 0 rfl) ?_
        refine lv_dup hx hb d_Mo_readOptions_216 rfl ?_
        refine ob_getI (k := 54) Cx hP ck_11 rfl w_f_Mo_178 d_Mo_readOptions_217 h (fun x217 h => ?_)
        refine lv_iconst (v := 1) hx hb d_Mo_readOptions_220 (by decide) ?_
        refine lv_iadd hx hb d_Mo_readOptions_221 ?_
        refine ob_putI (k := 54) Cx hP hS ck_11 rfl rfl rfl w_f_Mo_178 d_Mo_readOptions_222 h (fun t222 H locs h hP hS => ?_)
        refine lv_goto (tgt := 241) hx hb d_Mo_readOptions_225 (by decide) ?_
        exact tB_Mo_readOptions_241 Cx hk4 t222 H locs ls v0 v2 v3 v5 hP hS (lv_sub hl [0, 1, 2, 3] rfl) h
      · rw [if_neg (fun z => z hq)] at h
        refine lv_iconst (v := -1) hx hb d_Mo_readOptions_192 (by decide) ?_
        exact ob_iret Cx hP hS d_Mo_readOptions_193 h
  · rw [if_neg hq] at h
    exact tB_Mo_readOptions_176 Cx t H locs ls hP hS (lv_sub hl [] rfl) h
set_option maxHeartbeats 4000000 in
set_option maxRecDepth 100000 in
theorem tB_Mo_readOptions_147 {p : Program} {l : Launch} {e : Env} {R : Room} {s : State} {m : MethodId} {args : Array Value} {below : List Frame} {meth : Method} {c : Code} {b : Nat} {D : va_G} {cA : Nat → ClassId} {adK adV : Nat → Nat} {out : (Int32 × ob_S)} (Cx : ob_C p R s m args meth c cb_Mo_readOptions 8 "ObservedBlocksModel" (some .int) b D cA adK adV 1 25) {k4 : Nat → Int32 → Int32 → ob_S → Option (Int32 × ob_S)} (hk4 : ∀ (t : ob_S) (H : Heap) (locs : List Loc) (ls : Array Slot) (v0 : Nat) (v2 : Int32) (v3 : Int32), ob_H b D cA t H → va_S (ob_A b) s.heap H locs → lv_has ls 8 [(0, .ref (b + v0)), (2, .int v2), (3, .int v3)] → k4 v0 v2 v3 t = some out → W p l e R s m args below meth c H locs 0 0 (MQ below (ob_Qi b D cA out) args s 0 0 (ob_A b)) (F0 m 4 ls [])) : ∀ (t : ob_S) (H : Heap) (locs : List Loc) (ls : Array Slot) (v0 : Nat) (v2 : Int32) (v3 : Int32) (v5 : Int32) (v6 : Int32) (s0 : Int32), ob_H b D cA t H → va_S (ob_A b) s.heap H locs → lv_has ls 8 [(0, .ref (b + v0)), (2, .int v2), (3, .int v3), (5, .int v5), (6, .int v6)] → B_Mo_readOptions_147 k4 v0 v2 v3 v5 v6 s0 t = some out → W p l e R s m args below meth c H locs 0 0 (MQ below (ob_Qi b D cA out) args s 0 0 (ob_A b)) (F0 m 147 ls [.int s0]) := by
  have hx := Cx.1.1
  have hb := Cx.1.2.1
  intro t H locs ls v0 v2 v3 v5 v6 s0 hP hS hl h
  unfold B_Mo_readOptions_147 at h
  refine lv_istore (lv' := [(7, .int s0), (0, .ref (b + v0)), (2, .int v2), (3, .int v3), (5, .int v5), (6, .int v6)]) hx hb d_Mo_readOptions_147 hl (by decide) rfl (fun ls hl => ?_)
  refine lv_iload hx hb d_Mo_readOptions_149 (lv_at hl 0 rfl) ?_
  refine lv_if_eq (tgt := 176) hx hb d_Mo_readOptions_151 (by decide) (fun hq => ?_) (fun hq => ?_)
  · rw [if_pos hq] at h
    exact tB_Mo_readOptions_176 Cx t H locs ls hP hS (lv_sub hl [] rfl) h
  · rw [if_neg hq] at h
    refine lv_iload hx hb d_Mo_readOptions_154 (lv_at hl 5 rfl) ?_
    refine lv_if_eq (tgt := 165) hx hb d_Mo_readOptions_156 (by decide) (fun hq => ?_) (fun hq => ?_)
    · rw [if_pos hq] at h
      exact tB_Mo_readOptions_165 Cx hk4 t H locs ls v0 v2 v3 v5 hP hS (lv_sub hl [1, 2, 3, 4] rfl) h
    · rw [if_neg hq] at h
      refine lv_iload_n hx hb d_Mo_readOptions_159 rfl (lv_at hl 3 rfl) ?_
      refine lv_bipush (v := 11) hx hb d_Mo_readOptions_160 (by decide) ?_
      refine lv_icmp_ne (tgt := 176) hx hb d_Mo_readOptions_162 (by decide) (fun hq => ?_) (fun hq => ?_)
      · rw [if_pos hq] at h
        exact tB_Mo_readOptions_176 Cx t H locs ls hP hS (lv_sub hl [] rfl) h
      · rw [if_neg (fun z => z hq)] at h
        exact tB_Mo_readOptions_165 Cx hk4 t H locs ls v0 v2 v3 v5 hP hS (lv_sub hl [1, 2, 3, 4] rfl) h
set_option maxHeartbeats 4000000 in
set_option maxRecDepth 100000 in
theorem tB_Mo_readOptions_142 {p : Program} {l : Launch} {e : Env} {R : Room} {s : State} {m : MethodId} {args : Array Value} {below : List Frame} {meth : Method} {c : Code} {b : Nat} {D : va_G} {cA : Nat → ClassId} {adK adV : Nat → Nat} {out : (Int32 × ob_S)} (Cx : ob_C p R s m args meth c cb_Mo_readOptions 8 "ObservedBlocksModel" (some .int) b D cA adK adV 1 25) {k4 : Nat → Int32 → Int32 → ob_S → Option (Int32 × ob_S)} (hk4 : ∀ (t : ob_S) (H : Heap) (locs : List Loc) (ls : Array Slot) (v0 : Nat) (v2 : Int32) (v3 : Int32), ob_H b D cA t H → va_S (ob_A b) s.heap H locs → lv_has ls 8 [(0, .ref (b + v0)), (2, .int v2), (3, .int v3)] → k4 v0 v2 v3 t = some out → W p l e R s m args below meth c H locs 0 0 (MQ below (ob_Qi b D cA out) args s 0 0 (ob_A b)) (F0 m 4 ls [])) : ∀ (t : ob_S) (H : Heap) (locs : List Loc) (ls : Array Slot) (v0 : Nat) (v2 : Int32) (v3 : Int32) (v5 : Int32) (v6 : Int32), ob_H b D cA t H → va_S (ob_A b) s.heap H locs → lv_has ls 8 [(0, .ref (b + v0)), (2, .int v2), (3, .int v3), (5, .int v5), (6, .int v6)] → B_Mo_readOptions_142 k4 v0 v2 v3 v5 v6 t = some out → W p l e R s m args below meth c H locs 0 0 (MQ below (ob_Qi b D cA out) args s 0 0 (ob_A b)) (F0 m 142 ls []) := by
  have hx := Cx.1.1
  have hb := Cx.1.2.1
  intro t H locs ls v0 v2 v3 v5 v6 hP hS hl h
  unfold B_Mo_readOptions_142 at h
  refine lv_iconst (v := 1) hx hb d_Mo_readOptions_142 (by decide) ?_
  refine lv_goto (tgt := 147) hx hb d_Mo_readOptions_143 (by decide) ?_
  exact tB_Mo_readOptions_147 Cx hk4 t H locs ls v0 v2 v3 v5 v6 (1 : Int32) hP hS (lv_sub hl [0, 1, 2, 3, 4] rfl) h
set_option maxHeartbeats 4000000 in
set_option maxRecDepth 100000 in
theorem tB_Mo_readOptions_111 {p : Program} {l : Launch} {e : Env} {R : Room} {s : State} {m : MethodId} {args : Array Value} {below : List Frame} {meth : Method} {c : Code} {b : Nat} {D : va_G} {cA : Nat → ClassId} {adK adV : Nat → Nat} {out : (Int32 × ob_S)} (Cx : ob_C p R s m args meth c cb_Mo_readOptions 8 "ObservedBlocksModel" (some .int) b D cA adK adV 1 25) {k4 : Nat → Int32 → Int32 → ob_S → Option (Int32 × ob_S)} (hk4 : ∀ (t : ob_S) (H : Heap) (locs : List Loc) (ls : Array Slot) (v0 : Nat) (v2 : Int32) (v3 : Int32), ob_H b D cA t H → va_S (ob_A b) s.heap H locs → lv_has ls 8 [(0, .ref (b + v0)), (2, .int v2), (3, .int v3)] → k4 v0 v2 v3 t = some out → W p l e R s m args below meth c H locs 0 0 (MQ below (ob_Qi b D cA out) args s 0 0 (ob_A b)) (F0 m 4 ls [])) : ∀ (t : ob_S) (H : Heap) (locs : List Loc) (ls : Array Slot) (v0 : Nat) (v2 : Int32) (v3 : Int32) (v4 : Int32) (v5 : Int32) (s0 : Int32), ob_H b D cA t H → va_S (ob_A b) s.heap H locs → lv_has ls 8 [(0, .ref (b + v0)), (2, .int v2), (3, .int v3), (4, .int v4), (5, .int v5)] → B_Mo_readOptions_111 k4 v0 v2 v3 v4 v5 s0 t = some out → W p l e R s m args below meth c H locs 0 0 (MQ below (ob_Qi b D cA out) args s 0 0 (ob_A b)) (F0 m 111 ls [.int s0]) := by
  have hx := Cx.1.1
  have hb := Cx.1.2.1
  intro t H locs ls v0 v2 v3 v4 v5 s0 hP hS hl h
  unfold B_Mo_readOptions_111 at h
  refine lv_istore (lv' := [(6, .int s0), (0, .ref (b + v0)), (2, .int v2), (3, .int v3), (4, .int v4), (5, .int v5)]) hx hb d_Mo_readOptions_111 hl (by decide) rfl (fun ls hl => ?_)
  refine lv_iload_n hx hb d_Mo_readOptions_113 rfl (lv_at hl 3 rfl) ?_
  refine lv_iload hx hb d_Mo_readOptions_114 (lv_at hl 4 rfl) ?_
  refine lv_iadd hx hb d_Mo_readOptions_116 ?_
  refine lv_istore_n (lv' := [(3, .int (v3 + v4)), (6, .int s0), (0, .ref (b + v0)), (2, .int v2), (4, .int v4), (5, .int v5)]) hx hb d_Mo_readOptions_117 rfl hl (by decide) rfl (fun ls hl => ?_)
  refine lv_iload_n hx hb d_Mo_readOptions_118 rfl (lv_at hl 0 rfl) ?_
  refine lv_bipush (v := 6) hx hb d_Mo_readOptions_119 (by decide) ?_
  refine lv_icmp_eq (tgt := 142) hx hb d_Mo_readOptions_121 (by decide) (fun hq => ?_) (fun hq => ?_)
  · rw [if_pos hq] at h
    exact tB_Mo_readOptions_142 Cx hk4 t H locs ls v0 v2 (v3 + v4) v5 s0 hP hS (lv_sub hl [2, 3, 0, 5, 1] rfl) h
  · rw [if_neg hq] at h
    refine lv_iload_n hx hb d_Mo_readOptions_124 rfl (lv_at hl 0 rfl) ?_
    refine lv_bipush (v := 11) hx hb d_Mo_readOptions_125 (by decide) ?_
    refine lv_icmp_eq (tgt := 142) hx hb d_Mo_readOptions_127 (by decide) (fun hq => ?_) (fun hq => ?_)
    · rw [if_pos hq] at h
      exact tB_Mo_readOptions_142 Cx hk4 t H locs ls v0 v2 (v3 + v4) v5 s0 hP hS (lv_sub hl [2, 3, 0, 5, 1] rfl) h
    · rw [if_neg hq] at h
      refine lv_iload_n hx hb d_Mo_readOptions_130 rfl (lv_at hl 0 rfl) ?_
      refine lv_bipush (v := 23) hx hb d_Mo_readOptions_131 (by decide) ?_
      refine lv_icmp_eq (tgt := 142) hx hb d_Mo_readOptions_133 (by decide) (fun hq => ?_) (fun hq => ?_)
      · rw [if_pos hq] at h
        exact tB_Mo_readOptions_142 Cx hk4 t H locs ls v0 v2 (v3 + v4) v5 s0 hP hS (lv_sub hl [2, 3, 0, 5, 1] rfl) h
      · rw [if_neg hq] at h
        refine lv_iload_n hx hb d_Mo_readOptions_136 rfl (lv_at hl 0 rfl) ?_
        refine lv_bipush (v := 27) hx hb d_Mo_readOptions_137 (by decide) ?_
        refine lv_icmp_ne (tgt := 146) hx hb d_Mo_readOptions_139 (by decide) (fun hq => ?_) (fun hq => ?_)
        · rw [if_pos hq] at h
          refine lv_iconst (v := 0) hx hb d_Mo_readOptions_146 (by decide) ?_
          exact tB_Mo_readOptions_147 Cx hk4 t H locs ls v0 v2 (v3 + v4) v5 s0 (0 : Int32) hP hS (lv_sub hl [2, 3, 0, 5, 1] rfl) h
        · rw [if_neg (fun z => z hq)] at h
          exact tB_Mo_readOptions_142 Cx hk4 t H locs ls v0 v2 (v3 + v4) v5 s0 hP hS (lv_sub hl [2, 3, 0, 5, 1] rfl) h
set_option maxHeartbeats 4000000 in
set_option maxRecDepth 100000 in
theorem tB_Mo_readOptions_101 {p : Program} {l : Launch} {e : Env} {R : Room} {s : State} {m : MethodId} {args : Array Value} {below : List Frame} {meth : Method} {c : Code} {b : Nat} {D : va_G} {cA : Nat → ClassId} {adK adV : Nat → Nat} {out : (Int32 × ob_S)} (Cx : ob_C p R s m args meth c cb_Mo_readOptions 8 "ObservedBlocksModel" (some .int) b D cA adK adV 1 25) {k4 : Nat → Int32 → Int32 → ob_S → Option (Int32 × ob_S)} (hk4 : ∀ (t : ob_S) (H : Heap) (locs : List Loc) (ls : Array Slot) (v0 : Nat) (v2 : Int32) (v3 : Int32), ob_H b D cA t H → va_S (ob_A b) s.heap H locs → lv_has ls 8 [(0, .ref (b + v0)), (2, .int v2), (3, .int v3)] → k4 v0 v2 v3 t = some out → W p l e R s m args below meth c H locs 0 0 (MQ below (ob_Qi b D cA out) args s 0 0 (ob_A b)) (F0 m 4 ls [])) : ∀ (t : ob_S) (H : Heap) (locs : List Loc) (ls : Array Slot) (v0 : Nat) (v2 : Int32) (v3 : Int32) (v4 : Int32) (v5 : Int32), ob_H b D cA t H → va_S (ob_A b) s.heap H locs → lv_has ls 8 [(0, .ref (b + v0)), (2, .int v2), (3, .int v3), (4, .int v4), (5, .int v5)] → B_Mo_readOptions_101 k4 v0 v2 v3 v4 v5 t = some out → W p l e R s m args below meth c H locs 0 0 (MQ below (ob_Qi b D cA out) args s 0 0 (ob_A b)) (F0 m 101 ls []) := by
  have hx := Cx.1.1
  have hb := Cx.1.2.1
  intro t H locs ls v0 v2 v3 v4 v5 hP hS hl h
  unfold B_Mo_readOptions_101 at h
  refine lv_iload hx hb d_Mo_readOptions_101 (lv_at hl 3 rfl) ?_
  refine lv_if_ne (tgt := 110) hx hb d_Mo_readOptions_103 (by decide) (fun hq => ?_) (fun hq => ?_)
  · rw [if_pos hq] at h
    refine lv_iconst (v := 0) hx hb d_Mo_readOptions_110 (by decide) ?_
    exact tB_Mo_readOptions_111 Cx hk4 t H locs ls v0 v2 v3 v4 v5 (0 : Int32) hP hS (lv_sub hl [0, 1, 2, 3, 4] rfl) h
  · rw [if_neg (fun z => z hq)] at h
    refine lv_iconst (v := 1) hx hb d_Mo_readOptions_106 (by decide) ?_
    refine lv_goto (tgt := 111) hx hb d_Mo_readOptions_107 (by decide) ?_
    exact tB_Mo_readOptions_111 Cx hk4 t H locs ls v0 v2 v3 v4 v5 (1 : Int32) hP hS (lv_sub hl [0, 1, 2, 3, 4] rfl) h
set_option maxHeartbeats 4000000 in
set_option maxRecDepth 100000 in
theorem tB_Mo_readOptions_80 {p : Program} {l : Launch} {e : Env} {R : Room} {s : State} {m : MethodId} {args : Array Value} {below : List Frame} {meth : Method} {c : Code} {b : Nat} {D : va_G} {cA : Nat → ClassId} {adK adV : Nat → Nat} {out : (Int32 × ob_S)} (Cx : ob_C p R s m args meth c cb_Mo_readOptions 8 "ObservedBlocksModel" (some .int) b D cA adK adV 1 25) {k4 : Nat → Int32 → Int32 → ob_S → Option (Int32 × ob_S)} (hk4 : ∀ (t : ob_S) (H : Heap) (locs : List Loc) (ls : Array Slot) (v0 : Nat) (v2 : Int32) (v3 : Int32), ob_H b D cA t H → va_S (ob_A b) s.heap H locs → lv_has ls 8 [(0, .ref (b + v0)), (2, .int v2), (3, .int v3)] → k4 v0 v2 v3 t = some out → W p l e R s m args below meth c H locs 0 0 (MQ below (ob_Qi b D cA out) args s 0 0 (ob_A b)) (F0 m 4 ls [])) : ∀ (t : ob_S) (H : Heap) (locs : List Loc) (ls : Array Slot) (v0 : Nat) (v2 : Int32) (v3 : Int32) (v4 : Int32) (v5 : Int32), ob_H b D cA t H → va_S (ob_A b) s.heap H locs → lv_has ls 8 [(0, .ref (b + v0)), (2, .int v2), (3, .int v3), (4, .int v4), (5, .int v5)] → B_Mo_readOptions_80 k4 v0 v2 v3 v4 v5 t = some out → W p l e R s m args below meth c H locs 0 0 (MQ below (ob_Qi b D cA out) args s 0 0 (ob_A b)) (F0 m 80 ls []) := by
  have hx := Cx.1.1
  have hb := Cx.1.2.1
  intro t H locs ls v0 v2 v3 v4 v5 hP hS hl h
  unfold B_Mo_readOptions_80 at h
  refine lv_iload hx hb d_Mo_readOptions_80 (lv_at hl 3 rfl) ?_
  refine lv_bipush (v := 13) hx hb d_Mo_readOptions_82 (by decide) ?_
  refine lv_icmp_ne (tgt := 101) hx hb d_Mo_readOptions_84 (by decide) (fun hq => ?_) (fun hq => ?_)
  · rw [if_pos hq] at h
    exact tB_Mo_readOptions_101 Cx hk4 t H locs ls v0 v2 v3 v4 v5 hP hS (lv_sub hl [0, 1, 2, 3, 4] rfl) h
  · rw [if_neg (fun z => z hq)] at h
    refine lv_bipush (v := 13) hx hb d_Mo_readOptions_87 (by decide) ?_
    refine lv_aload_n hx hb d_Mo_readOptions_89 rfl (lv_at hl 0 rfl) ?_
    refine ob_getR (k := 47) Cx hP ck_11 rfl w_f_Mo_129 d_Mo_readOptions_90 h (fun n90 h => ?_)
    refine lv_iload_n hx hb d_Mo_readOptions_93 rfl (lv_at hl 1 rfl) ?_
    refine ob_aldI Cx hP d_Mo_readOptions_94 h (fun x94 h => ?_)
    refine lv_iadd hx hb d_Mo_readOptions_95 ?_
    refine lv_istore (lv' := [(4, .int ((13 : Int32) + x94)), (0, .ref (b + v0)), (2, .int v2), (3, .int v3), (5, .int v5)]) hx hb d_Mo_readOptions_96 hl (by decide) rfl (fun ls hl => ?_)
    refine lv_iinc (v := (v2 + (1 : Int32))) (lv' := [(2, .int (v2 + (1 : Int32))), (4, .int ((13 : Int32) + x94)), (0, .ref (b + v0)), (3, .int v3), (5, .int v5)]) hx hb d_Mo_readOptions_98 hl (k := 2) rfl rfl (by decide) rfl (fun ls hl => ?_)
    exact tB_Mo_readOptions_101 Cx hk4 t H locs ls v0 (v2 + (1 : Int32)) v3 ((13 : Int32) + x94) v5 hP hS (lv_sub hl [2, 0, 3, 1, 4] rfl) h
set_option maxHeartbeats 4000000 in
set_option maxRecDepth 100000 in
theorem tB_Mo_readOptions_249 {p : Program} {l : Launch} {e : Env} {R : Room} {s : State} {m : MethodId} {args : Array Value} {below : List Frame} {meth : Method} {c : Code} {b : Nat} {D : va_G} {cA : Nat → ClassId} {adK adV : Nat → Nat} {out : (Int32 × ob_S)} (Cx : ob_C p R s m args meth c cb_Mo_readOptions 8 "ObservedBlocksModel" (some .int) b D cA adK adV 1 25) : ∀ (t : ob_S) (H : Heap) (locs : List Loc) (ls : Array Slot) (v2 : Int32), ob_H b D cA t H → va_S (ob_A b) s.heap H locs → lv_has ls 8 [(2, .int v2)] → B_Mo_readOptions_249 v2 t = some out → W p l e R s m args below meth c H locs 0 0 (MQ below (ob_Qi b D cA out) args s 0 0 (ob_A b)) (F0 m 249 ls []) := by
  have hx := Cx.1.1
  have hb := Cx.1.2.1
  intro t H locs ls v2 hP hS hl h
  unfold B_Mo_readOptions_249 at h
  refine lv_iload_n hx hb d_Mo_readOptions_249 rfl (lv_at hl 0 rfl) ?_
  exact ob_iret Cx hP hS d_Mo_readOptions_250 h
set_option maxHeartbeats 4000000 in
set_option maxRecDepth 100000 in
theorem tB_Mo_readOptions_4 {p : Program} {l : Launch} {e : Env} {R : Room} {s : State} {m : MethodId} {args : Array Value} {below : List Frame} {meth : Method} {c : Code} {b : Nat} {D : va_G} {cA : Nat → ClassId} {adK adV : Nat → Nat} {out : (Int32 × ob_S)} (Cx : ob_C p R s m args meth c cb_Mo_readOptions 8 "ObservedBlocksModel" (some .int) b D cA adK adV 1 25) : ∀ (fu : Nat), ∀ (t : ob_S) (H : Heap) (locs : List Loc) (ls : Array Slot) (v0 : Nat) (v2 : Int32) (v3 : Int32), ob_H b D cA t H → va_S (ob_A b) s.heap H locs → lv_has ls 8 [(0, .ref (b + v0)), (2, .int v2), (3, .int v3)] → B_Mo_readOptions_4 fu v0 v2 v3 t = some out → W p l e R s m args below meth c H locs 0 0 (MQ below (ob_Qi b D cA out) args s 0 0 (ob_A b)) (F0 m 4 ls []) := by
  have hx := Cx.1.1
  have hb := Cx.1.2.1
  intro fu
  induction fu with
  | zero =>
    intro t H locs ls v0 v2 v3 hP hS hl h
    cases h
  | succ fu ih =>
    intro t H locs ls v0 v2 v3 hP hS hl h
    rw [B_Mo_readOptions_4] at h
    refine lv_iload_n hx hb d_Mo_readOptions_4 rfl (lv_at hl 1 rfl) ?_
    refine lv_aload_n hx hb d_Mo_readOptions_5 rfl (lv_at hl 0 rfl) ?_
    refine ob_getI (k := 48) Cx hP ck_11 rfl w_f_Mo_175 d_Mo_readOptions_6 h (fun x6 h => ?_)
    refine lv_icmp_ge (tgt := 249) hx hb d_Mo_readOptions_9 (by decide) (fun hq => ?_) (fun hq => ?_)
    · rw [if_pos hq] at h
      exact tB_Mo_readOptions_249 Cx t H locs ls v2 hP hS (lv_sub hl [1] rfl) h
    · rw [if_neg hq] at h
      refine lv_aload_n hx hb d_Mo_readOptions_12 rfl (lv_at hl 0 rfl) ?_
      refine ob_getR (k := 47) Cx hP ck_11 rfl w_f_Mo_129 d_Mo_readOptions_13 h (fun n13 h => ?_)
      refine lv_iload_n hx hb d_Mo_readOptions_16 rfl (lv_at hl 1 rfl) ?_
      refine ob_aldI Cx hP d_Mo_readOptions_17 h (fun x17 h => ?_)
      refine lv_sipush (v := 255) hx hb d_Mo_readOptions_18 (by decide) ?_
      refine lv_icmp_eq (tgt := 249) hx hb d_Mo_readOptions_21 (by decide) (fun hq => ?_) (fun hq => ?_)
      · rw [if_pos hq] at h
        exact tB_Mo_readOptions_249 Cx t H locs ls v2 hP hS (lv_sub hl [1] rfl) h
      · rw [if_neg hq] at h
        refine lv_aload_n hx hb d_Mo_readOptions_24 rfl (lv_at hl 0 rfl) ?_
        refine ob_getR (k := 47) Cx hP ck_11 rfl w_f_Mo_129 d_Mo_readOptions_25 h (fun n25 h => ?_)
        refine lv_iload_n hx hb d_Mo_readOptions_28 rfl (lv_at hl 1 rfl) ?_
        refine ob_aldI Cx hP d_Mo_readOptions_29 h (fun x29 h => ?_)
        refine lv_bipush (v := 16) hx hb d_Mo_readOptions_30 (by decide) ?_
        refine lv_idiv hx hb d_Mo_readOptions_32 (by decide) ?_
        refine lv_istore (lv' := [(4, .int (x29 / (16 : Int32))), (0, .ref (b + v0)), (2, .int v2), (3, .int v3)]) hx hb d_Mo_readOptions_33 hl (by decide) rfl (fun ls hl => ?_)
        refine lv_aload_n hx hb d_Mo_readOptions_35 rfl (lv_at hl 1 rfl) ?_
        refine ob_getR (k := 47) Cx hP ck_11 rfl w_f_Mo_129 d_Mo_readOptions_36 h (fun n36 h => ?_)
        refine lv_iload_n hx hb d_Mo_readOptions_39 rfl (lv_at hl 2 rfl) ?_
        refine ob_aldI Cx hP d_Mo_readOptions_40 h (fun x40 h => ?_)
        refine lv_bipush (v := 16) hx hb d_Mo_readOptions_41 (by decide) ?_
        refine lv_irem hx hb d_Mo_readOptions_43 (by decide) ?_
        refine lv_istore (lv' := [(5, .int (x40 - x40 / (16 : Int32) * (16 : Int32))), (4, .int (x29 / (16 : Int32))), (0, .ref (b + v0)), (2, .int v2), (3, .int v3)]) hx hb d_Mo_readOptions_44 hl (by decide) rfl (fun ls hl => ?_)
        refine lv_iinc (v := (v2 + (1 : Int32))) (lv' := [(2, .int (v2 + (1 : Int32))), (5, .int (x40 - x40 / (16 : Int32) * (16 : Int32))), (4, .int (x29 / (16 : Int32))), (0, .ref (b + v0)), (3, .int v3)]) hx hb d_Mo_readOptions_46 hl (k := 3) rfl rfl (by decide) rfl (fun ls hl => ?_)
        refine lv_iload hx hb d_Mo_readOptions_49 (lv_at hl 2 rfl) ?_
        refine lv_bipush (v := 13) hx hb d_Mo_readOptions_51 (by decide) ?_
        refine lv_icmp_gt (tgt := 78) hx hb d_Mo_readOptions_53 (by decide) (fun hq => ?_) (fun hq => ?_)
        · rw [if_pos hq] at h
          exact tB_Mo_readOptions_78 Cx t H locs ls hP hS (lv_sub hl [] rfl) h
        · rw [if_neg hq] at h
          refine lv_iload hx hb d_Mo_readOptions_56 (lv_at hl 1 rfl) ?_
          refine lv_bipush (v := 12) hx hb d_Mo_readOptions_58 (by decide) ?_
          refine lv_icmp_gt (tgt := 78) hx hb d_Mo_readOptions_60 (by decide) (fun hq => ?_) (fun hq => ?_)
          · rw [if_pos hq] at h
            exact tB_Mo_readOptions_78 Cx t H locs ls hP hS (lv_sub hl [] rfl) h
          · rw [if_neg hq] at h
            refine lv_iload hx hb d_Mo_readOptions_63 (lv_at hl 2 rfl) ?_
            refine lv_bipush (v := 13) hx hb d_Mo_readOptions_65 (by decide) ?_
            refine lv_icmp_ne (tgt := 80) hx hb d_Mo_readOptions_67 (by decide) (fun hq => ?_) (fun hq => ?_)
            · rw [if_pos hq] at h
              exact tB_Mo_readOptions_80 Cx ih t H locs ls v0 (v2 + (1 : Int32)) v3 (x29 / (16 : Int32)) (x40 - x40 / (16 : Int32) * (16 : Int32)) hP hS (lv_sub hl [3, 0, 4, 2, 1] rfl) h
            · rw [if_neg (fun z => z hq)] at h
              refine lv_iload_n hx hb d_Mo_readOptions_70 rfl (lv_at hl 0 rfl) ?_
              refine lv_aload_n hx hb d_Mo_readOptions_71 rfl (lv_at hl 3 rfl) ?_
              refine ob_getI (k := 48) Cx hP ck_11 rfl w_f_Mo_175 d_Mo_readOptions_72 h (fun x72 h => ?_)
              refine lv_icmp_ne (tgt := 80) hx hb d_Mo_readOptions_75 (by decide) (fun hq => ?_) (fun hq => ?_)
              · rw [if_pos hq] at h
                exact tB_Mo_readOptions_80 Cx ih t H locs ls v0 (v2 + (1 : Int32)) v3 (x29 / (16 : Int32)) (x40 - x40 / (16 : Int32) * (16 : Int32)) hP hS (lv_sub hl [3, 0, 4, 2, 1] rfl) h
              · rw [if_neg (fun z => z hq)] at h
                exact tB_Mo_readOptions_78 Cx t H locs ls hP hS (lv_sub hl [] rfl) h
theorem g_Mo_readOptions (v0 : Nat) (v1 : Int32) {t : ob_S} {out : (Int32 × ob_S)} (h : X_Mo_readOptions v0 v1 t = some out) : v0 < ob_n t ∧ ob_k t v0 = 11 := by
  unfold X_Mo_readOptions ob_this at h
  by_cases q : v0 < ob_n t ∧ ob_k t v0 = 11
  · exact q
  · rw [if_neg q] at h
    cases h
set_option maxHeartbeats 4000000 in
set_option maxRecDepth 100000 in
theorem c_Mo_readOptions {l : Launch} {b : Nat} {D : va_G} {cA : Nat → ClassId} {adK adV : Nat → Nat} (v0 : Nat) (v1 : Int32) {t : ob_S} {out : (Int32 × ob_S)} (h : X_Mo_readOptions v0 v1 t = some out) : Met l y_Mo_readOptions (Cond.code y_Mo_readOptions cb_Mo_readOptions 8 (some .int) :: ob_T) { frames := 1, cells := 0, slots := 0, locals := 25 } (ob_Pre b D cA adK adV [.ref (b + v0), .int v1] t) (ob_Qi b D cA out) 0 0 (ob_A b) := by
  refine ob_met (by decide) (Nat.le_of_ble_eq_true rfl) ?_
  intro p e R s m args below meth c ls Cx hP hS hl
  have hl : lv_has ls 8 [(0, .ref (b + v0)), (1, .int v1)] := hl
  have hx := Cx.1.1
  have hb := Cx.1.2.1
  have hg := g_Mo_readOptions v0 v1 h
  unfold X_Mo_readOptions ob_this at h
  rw [if_pos hg] at h
  obtain ⟨H, hH⟩ : ∃ H, H = s.heap := ⟨_, rfl⟩
  obtain ⟨locs, hL⟩ : ∃ locs : List Loc, locs = [] := ⟨_, rfl⟩
  rw [← hH] at hP
  have hS : va_S (ob_A b) s.heap H locs := by rw [hH, hL]; exact hS
  suffices hW : W p l e R s m args below meth c H locs 0 0 (MQ below (ob_Qi b D cA out) args s 0 0 (ob_A b)) (F0 m 0 ls []) by rw [hH, hL] at hW; exact hW
  refine lv_iload_n hx hb d_Mo_readOptions_0 rfl (lv_at hl 1 rfl) ?_
  refine lv_istore_n (lv' := [(2, .int v1), (0, .ref (b + v0)), (1, .int v1)]) hx hb d_Mo_readOptions_1 rfl hl (by decide) rfl (fun ls hl => ?_)
  refine lv_iconst (v := 0) hx hb d_Mo_readOptions_2 (by decide) ?_
  refine lv_istore_n (lv' := [(3, .int (0 : Int32)), (2, .int v1), (0, .ref (b + v0)), (1, .int v1)]) hx hb d_Mo_readOptions_3 rfl hl (by decide) rfl (fun ls hl => ?_)
  exact tB_Mo_readOptions_4 Cx ob_fu t H locs ls v0 v1 (0 : Int32) hP hS (lv_sub hl [2, 1, 0] rfl) h

set_option maxHeartbeats 4000000 in
set_option maxRecDepth 100000 in
theorem tB_Me_takeOut_9 {p : Program} {l : Launch} {e : Env} {R : Room} {s : State} {m : MethodId} {args : Array Value} {below : List Frame} {meth : Method} {c : Code} {b : Nat} {D : va_G} {cA : Nat → ClassId} {adK adV : Nat → Nat} {out : ob_S} (Cx : ob_C p R s m args meth c cb_Me_takeOut 4 "ObservedBlocks$Memory" none b D cA adK adV 0 0) : ∀ (fu : Nat), ∀ (t : ob_S) (H : Heap) (locs : List Loc) (ls : Array Slot) (v0 : Nat) (v2 : Nat) (v3 : Int32), ob_H b D cA t H → va_S (ob_A b) s.heap H locs → lv_has ls 4 [(0, .ref (b + v0)), (2, .ref (b + v2)), (3, .int v3)] → B_Me_takeOut_9 fu v0 v2 v3 t = some out → W p l e R s m args below meth c H locs 0 0 (MQ below (ob_Qv b D cA out) args s 0 0 (ob_A b)) (F0 m 9 ls []) := by
  have hx := Cx.1.1
  have hb := Cx.1.2.1
  intro fu
  induction fu with
  | zero =>
    intro t H locs ls v0 v2 v3 hP hS hl h
    cases h
  | succ fu ih =>
    intro t H locs ls v0 v2 v3 hP hS hl h
    rw [B_Me_takeOut_9] at h
    refine lv_iload_n hx hb d_Me_takeOut_9 rfl (lv_at hl 2 rfl) ?_
    refine lv_aload_n hx hb d_Me_takeOut_10 rfl (lv_at hl 0 rfl) ?_
    refine ob_getI (k := 3) Cx hP ck_2 rfl w_f_Me_27 d_Me_takeOut_11 h (fun x11 h => ?_)
    refine lv_iconst (v := 1) hx hb d_Me_takeOut_14 (by decide) ?_
    refine lv_isub hx hb d_Me_takeOut_15 ?_
    refine lv_icmp_ge (tgt := 67) hx hb d_Me_takeOut_16 (by decide) (fun hq => ?_) (fun hq => ?_)
    · rw [if_pos hq] at h
      refine lv_aload_n hx hb d_Me_takeOut_67 rfl (lv_at hl 0 rfl) ?_
      refine lv_dup hx hb d_Me_takeOut_68 rfl ?_
      refine ob_getI (k := 3) Cx hP ck_2 rfl w_f_Me_27 d_Me_takeOut_69 h (fun x69 h => ?_)
      refine lv_iconst (v := 1) hx hb d_Me_takeOut_72 (by decide) ?_
      refine lv_isub hx hb d_Me_takeOut_73 ?_
      refine ob_putI (k := 3) Cx hP hS ck_2 rfl rfl rfl w_f_Me_27 d_Me_takeOut_74 h (fun t74 H locs h hP hS => ?_)
      refine lv_aload_n hx hb d_Me_takeOut_77 rfl (lv_at hl 0 rfl) ?_
      refine ob_getR (k := 0) Cx hP ck_2 rfl w_f_Me_11 d_Me_takeOut_78 h (fun n78 h => ?_)
      refine lv_aload_n hx hb d_Me_takeOut_81 rfl (lv_at hl 0 rfl) ?_
      refine ob_getI (k := 3) Cx hP ck_2 rfl w_f_Me_27 d_Me_takeOut_82 h (fun x82 h => ?_)
      refine lv_aload_n hx hb d_Me_takeOut_85 rfl (lv_at hl 1 rfl) ?_
      refine ob_astR (kd := 14) Cx hP hS (by decide) (by decide) (rfl : ob_cl[0]? = _) rfl d_Me_takeOut_86 h (fun t86 H locs h hP hS => ?_)
      exact ob_vret Cx hP hS d_Me_takeOut_87 h
    · rw [if_neg hq] at h
      refine lv_aload_n hx hb d_Me_takeOut_19 rfl (lv_at hl 0 rfl) ?_
      refine ob_getR (k := 0) Cx hP ck_2 rfl w_f_Me_11 d_Me_takeOut_20 h (fun n20 h => ?_)
      refine lv_iload_n hx hb d_Me_takeOut_23 rfl (lv_at hl 2 rfl) ?_
      refine lv_aload_n hx hb d_Me_takeOut_24 rfl (lv_at hl 0 rfl) ?_
      refine ob_getR (k := 0) Cx hP ck_2 rfl w_f_Me_11 d_Me_takeOut_25 h (fun n25 h => ?_)
      refine lv_iload_n hx hb d_Me_takeOut_28 rfl (lv_at hl 2 rfl) ?_
      refine lv_iconst (v := 1) hx hb d_Me_takeOut_29 (by decide) ?_
      refine lv_iadd hx hb d_Me_takeOut_30 ?_
      refine ob_aldR (kd := 14) Cx hP (by decide) rfl d_Me_takeOut_31 h (fun n31 h => ?_)
      refine ob_astR (kd := 14) Cx hP hS (by decide) (by decide) (rfl : ob_cl[0]? = _) rfl d_Me_takeOut_32 h (fun t32 H locs h hP hS => ?_)
      refine lv_aload_n hx hb d_Me_takeOut_33 rfl (lv_at hl 0 rfl) ?_
      refine ob_getR (k := 1) Cx hP ck_2 rfl w_f_Me_17 d_Me_takeOut_34 h (fun n34 h => ?_)
      refine lv_iload_n hx hb d_Me_takeOut_37 rfl (lv_at hl 2 rfl) ?_
      refine lv_aload_n hx hb d_Me_takeOut_38 rfl (lv_at hl 0 rfl) ?_
      refine ob_getR (k := 1) Cx hP ck_2 rfl w_f_Me_17 d_Me_takeOut_39 h (fun n39 h => ?_)
      refine lv_iload_n hx hb d_Me_takeOut_42 rfl (lv_at hl 2 rfl) ?_
      refine lv_iconst (v := 1) hx hb d_Me_takeOut_43 (by decide) ?_
      refine lv_iadd hx hb d_Me_takeOut_44 ?_
      refine ob_aldI Cx hP d_Me_takeOut_45 h (fun x45 h => ?_)
      refine ob_astI Cx hP hS d_Me_takeOut_46 h (fun t46 H locs h hP hS => ?_)
      refine lv_aload_n hx hb d_Me_takeOut_47 rfl (lv_at hl 0 rfl) ?_
      refine ob_getR (k := 2) Cx hP ck_2 rfl w_f_Me_21 d_Me_takeOut_48 h (fun n48 h => ?_)
      refine lv_iload_n hx hb d_Me_takeOut_51 rfl (lv_at hl 2 rfl) ?_
      refine lv_aload_n hx hb d_Me_takeOut_52 rfl (lv_at hl 0 rfl) ?_
      refine ob_getR (k := 2) Cx hP ck_2 rfl w_f_Me_21 d_Me_takeOut_53 h (fun n53 h => ?_)
      refine lv_iload_n hx hb d_Me_takeOut_56 rfl (lv_at hl 2 rfl) ?_
      refine lv_iconst (v := 1) hx hb d_Me_takeOut_57 (by decide) ?_
      refine lv_iadd hx hb d_Me_takeOut_58 ?_
      refine ob_aldI Cx hP d_Me_takeOut_59 h (fun x59 h => ?_)
      refine ob_astI Cx hP hS d_Me_takeOut_60 h (fun t60 H locs h hP hS => ?_)
      refine lv_iinc (v := (v3 + (1 : Int32))) (lv' := [(3, .int (v3 + (1 : Int32))), (0, .ref (b + v0)), (2, .ref (b + v2))]) hx hb d_Me_takeOut_61 hl (k := 2) rfl rfl (by decide) rfl (fun ls hl => ?_)
      refine lv_goto (tgt := 9) hx hb d_Me_takeOut_64 (by decide) ?_
      exact ih t60 H locs ls v0 v2 (v3 + (1 : Int32)) hP hS (lv_sub hl [1, 2, 0] rfl) h
theorem g_Me_takeOut (v0 : Nat) (v1 : Int32) {t : ob_S} {out : ob_S} (h : X_Me_takeOut v0 v1 t = some out) : v0 < ob_n t ∧ ob_k t v0 = 2 := by
  unfold X_Me_takeOut ob_this at h
  by_cases q : v0 < ob_n t ∧ ob_k t v0 = 2
  · exact q
  · rw [if_neg q] at h
    cases h
set_option maxHeartbeats 4000000 in
set_option maxRecDepth 100000 in
theorem c_Me_takeOut {l : Launch} {b : Nat} {D : va_G} {cA : Nat → ClassId} {adK adV : Nat → Nat} (v0 : Nat) (v1 : Int32) {t : ob_S} {out : ob_S} (h : X_Me_takeOut v0 v1 t = some out) : Met l y_Me_takeOut (Cond.code y_Me_takeOut cb_Me_takeOut 4 none :: ob_T) { frames := 0, cells := 0, slots := 0, locals := 0 } (ob_Pre b D cA adK adV [.ref (b + v0), .int v1] t) (ob_Qv b D cA out) 0 0 (ob_A b) := by
  refine ob_met (by decide) (Nat.le_of_ble_eq_true rfl) ?_
  intro p e R s m args below meth c ls Cx hP hS hl
  have hl : lv_has ls 4 [(0, .ref (b + v0)), (1, .int v1)] := hl
  have hx := Cx.1.1
  have hb := Cx.1.2.1
  have hg := g_Me_takeOut v0 v1 h
  unfold X_Me_takeOut ob_this at h
  rw [if_pos hg] at h
  obtain ⟨H, hH⟩ : ∃ H, H = s.heap := ⟨_, rfl⟩
  obtain ⟨locs, hL⟩ : ∃ locs : List Loc, locs = [] := ⟨_, rfl⟩
  rw [← hH] at hP
  have hS : va_S (ob_A b) s.heap H locs := by rw [hH, hL]; exact hS
  suffices hW : W p l e R s m args below meth c H locs 0 0 (MQ below (ob_Qv b D cA out) args s 0 0 (ob_A b)) (F0 m 0 ls []) by rw [hH, hL] at hW; exact hW
  refine lv_aload_n hx hb d_Me_takeOut_0 rfl (lv_at hl 0 rfl) ?_
  refine ob_getR (k := 0) Cx hP ck_2 rfl w_f_Me_11 d_Me_takeOut_1 h (fun n1 h => ?_)
  refine lv_iload_n hx hb d_Me_takeOut_4 rfl (lv_at hl 1 rfl) ?_
  refine ob_aldR (kd := 14) Cx hP (by decide) rfl d_Me_takeOut_5 h (fun n5 h => ?_)
  refine lv_astore_n (lv' := [(2, .ref (b + n5)), (0, .ref (b + v0)), (1, .int v1)]) hx hb d_Me_takeOut_6 rfl hl (by decide) rfl (fun ls hl => ?_)
  refine lv_iload_n hx hb d_Me_takeOut_7 rfl (lv_at hl 2 rfl) ?_
  refine lv_istore_n (lv' := [(3, .int v1), (2, .ref (b + n5)), (0, .ref (b + v0)), (1, .int v1)]) hx hb d_Me_takeOut_8 rfl hl (by decide) rfl (fun ls hl => ?_)
  exact tB_Me_takeOut_9 Cx ob_fu t H locs ls v0 n5 v1 hP hS (lv_sub hl [2, 1, 0] rfl) h
set_option maxHeartbeats 4000000 in
set_option maxRecDepth 100000 in
theorem tB_Me_keep_32 {p : Program} {l : Launch} {e : Env} {R : Room} {s : State} {m : MethodId} {args : Array Value} {below : List Frame} {meth : Method} {c : Code} {b : Nat} {D : va_G} {cA : Nat → ClassId} {adK adV : Nat → Nat} {out : ob_S} (Cx : ob_C p R s m args meth c cb_Me_keep 5 "ObservedBlocks$Memory" none b D cA adK adV 2 49) : ∀ (t : ob_S) (H : Heap) (locs : List Loc) (ls : Array Slot) (v0 : Nat) (v1 : Int32) (v2 : Int32) (v3 : Nat), ob_H b D cA t H → va_S (ob_A b) s.heap H locs → lv_has ls 5 [(0, .ref (b + v0)), (1, .int v1), (2, .int v2), (3, .ref (b + v3))] → B_Me_keep_32 v0 v1 v2 v3 t = some out → W p l e R s m args below meth c H locs 0 0 (MQ below (ob_Qv b D cA out) args s 0 0 (ob_A b)) (F0 m 32 ls []) := by
  have hx := Cx.1.1
  have hb := Cx.1.2.1
  intro t H locs ls v0 v1 v2 v3 hP hS hl h
  unfold B_Me_keep_32 at h
  refine lv_aload_n hx hb d_Me_keep_32 rfl (lv_at hl 0 rfl) ?_
  refine ob_getR (k := 0) Cx hP ck_2 rfl w_f_Me_11 d_Me_keep_33 h (fun n33 h => ?_)
  refine lv_aload_n hx hb d_Me_keep_36 rfl (lv_at hl 0 rfl) ?_
  refine ob_getI (k := 3) Cx hP ck_2 rfl w_f_Me_27 d_Me_keep_37 h (fun x37 h => ?_)
  refine ob_aldR (kd := 14) Cx hP (by decide) rfl d_Me_keep_40 h (fun n40 h => ?_)
  refine lv_aload_n hx hb d_Me_keep_41 rfl (lv_at hl 3 rfl) ?_
  refine ob_cVv (nA := 1) (As := [.ref (b + v3)]) (rest := []) Cx hl.1 hP hS (fun o ho => c_By_become n40 v3 ho) (fun o ho => g_By_become n40 v3 ho) (by decide) (rfl : ob_cl[0]? = _) mv_By_become w_m_Me_38 rfl (by decide +kernel) ⟨rfl, rfl⟩ ⟨by decide, by decide⟩ (Nat.le_of_ble_eq_true rfl) rfl d_Me_keep_42 h (fun t42 H locs h hP hS => ?_)
  refine lv_aload_n hx hb d_Me_keep_45 rfl (lv_at hl 0 rfl) ?_
  refine ob_getR (k := 1) Cx hP ck_2 rfl w_f_Me_17 d_Me_keep_46 h (fun n46 h => ?_)
  refine lv_aload_n hx hb d_Me_keep_49 rfl (lv_at hl 0 rfl) ?_
  refine ob_getI (k := 3) Cx hP ck_2 rfl w_f_Me_27 d_Me_keep_50 h (fun x50 h => ?_)
  refine lv_iload_n hx hb d_Me_keep_53 rfl (lv_at hl 1 rfl) ?_
  refine ob_astI Cx hP hS d_Me_keep_54 h (fun t54 H locs h hP hS => ?_)
  refine lv_aload_n hx hb d_Me_keep_55 rfl (lv_at hl 0 rfl) ?_
  refine ob_getR (k := 2) Cx hP ck_2 rfl w_f_Me_21 d_Me_keep_56 h (fun n56 h => ?_)
  refine lv_aload_n hx hb d_Me_keep_59 rfl (lv_at hl 0 rfl) ?_
  refine ob_getI (k := 3) Cx hP ck_2 rfl w_f_Me_27 d_Me_keep_60 h (fun x60 h => ?_)
  refine lv_iload_n hx hb d_Me_keep_63 rfl (lv_at hl 2 rfl) ?_
  refine ob_astI Cx hP hS d_Me_keep_64 h (fun t64 H locs h hP hS => ?_)
  refine lv_aload_n hx hb d_Me_keep_65 rfl (lv_at hl 0 rfl) ?_
  refine lv_dup hx hb d_Me_keep_66 rfl ?_
  refine ob_getI (k := 3) Cx hP ck_2 rfl w_f_Me_27 d_Me_keep_67 h (fun x67 h => ?_)
  refine lv_iconst (v := 1) hx hb d_Me_keep_70 (by decide) ?_
  refine lv_iadd hx hb d_Me_keep_71 ?_
  refine ob_putI (k := 3) Cx hP hS ck_2 rfl rfl rfl w_f_Me_27 d_Me_keep_72 h (fun t72 H locs h hP hS => ?_)
  exact ob_vret Cx hP hS d_Me_keep_75 h
set_option maxHeartbeats 4000000 in
set_option maxRecDepth 100000 in
theorem tB_Me_keep_19 {p : Program} {l : Launch} {e : Env} {R : Room} {s : State} {m : MethodId} {args : Array Value} {below : List Frame} {meth : Method} {c : Code} {b : Nat} {D : va_G} {cA : Nat → ClassId} {adK adV : Nat → Nat} {out : ob_S} (Cx : ob_C p R s m args meth c cb_Me_keep 5 "ObservedBlocks$Memory" none b D cA adK adV 2 49) : ∀ (t : ob_S) (H : Heap) (locs : List Loc) (ls : Array Slot) (v0 : Nat) (v1 : Int32) (v2 : Int32) (v3 : Nat), ob_H b D cA t H → va_S (ob_A b) s.heap H locs → lv_has ls 5 [(0, .ref (b + v0)), (1, .int v1), (2, .int v2), (3, .ref (b + v3))] → B_Me_keep_19 v0 v1 v2 v3 t = some out → W p l e R s m args below meth c H locs 0 0 (MQ below (ob_Qv b D cA out) args s 0 0 (ob_A b)) (F0 m 19 ls []) := by
  have hx := Cx.1.1
  have hb := Cx.1.2.1
  intro t H locs ls v0 v1 v2 v3 hP hS hl h
  unfold B_Me_keep_19 at h
  refine lv_aload_n hx hb d_Me_keep_19 rfl (lv_at hl 0 rfl) ?_
  refine ob_getI (k := 3) Cx hP ck_2 rfl w_f_Me_27 d_Me_keep_20 h (fun x20 h => ?_)
  refine lv_iconst (v := 4) hx hb d_Me_keep_23 (by decide) ?_
  refine lv_icmp_ne (tgt := 32) hx hb d_Me_keep_24 (by decide) (fun hq => ?_) (fun hq => ?_)
  · rw [if_pos hq] at h
    exact tB_Me_keep_32 Cx t H locs ls v0 v1 v2 v3 hP hS (lv_sub hl [0, 1, 2, 3] rfl) h
  · rw [if_neg (fun z => z hq)] at h
    refine lv_aload_n hx hb d_Me_keep_27 rfl (lv_at hl 0 rfl) ?_
    refine lv_iconst (v := 0) hx hb d_Me_keep_28 (by decide) ?_
    refine ob_cVv (nA := 1) (As := [.int (0 : Int32)]) (rest := []) Cx hl.1 hP hS (fun o ho => c_Me_takeOut v0 (0 : Int32) ho) (fun o ho => g_Me_takeOut v0 (0 : Int32) ho) (by decide) (rfl : ob_cl[2]? = _) mv_Me_takeOut w_m_Me_35 rfl (by decide +kernel) ⟨rfl, rfl⟩ ⟨by decide, by decide⟩ (Nat.le_of_ble_eq_true rfl) rfl d_Me_keep_29 h (fun t29 H locs h hP hS => ?_)
    exact tB_Me_keep_32 Cx t29 H locs ls v0 v1 v2 v3 hP hS (lv_sub hl [0, 1, 2, 3] rfl) h
theorem g_Me_keep (v0 : Nat) (v1 : Int32) (v2 : Int32) (v3 : Nat) {t : ob_S} {out : ob_S} (h : X_Me_keep v0 v1 v2 v3 t = some out) : v0 < ob_n t ∧ ob_k t v0 = 2 := by
  unfold X_Me_keep ob_this at h
  by_cases q : v0 < ob_n t ∧ ob_k t v0 = 2
  · exact q
  · rw [if_neg q] at h
    cases h
set_option maxHeartbeats 4000000 in
set_option maxRecDepth 100000 in
theorem c_Me_keep {l : Launch} {b : Nat} {D : va_G} {cA : Nat → ClassId} {adK adV : Nat → Nat} (v0 : Nat) (v1 : Int32) (v2 : Int32) (v3 : Nat) {t : ob_S} {out : ob_S} (h : X_Me_keep v0 v1 v2 v3 t = some out) : Met l y_Me_keep (Cond.code y_Me_keep cb_Me_keep 5 none :: ob_T) { frames := 2, cells := 0, slots := 0, locals := 49 } (ob_Pre b D cA adK adV [.ref (b + v0), .int v1, .int v2, .ref (b + v3)] t) (ob_Qv b D cA out) 0 0 (ob_A b) := by
  refine ob_met (by decide) (Nat.le_of_ble_eq_true rfl) ?_
  intro p e R s m args below meth c ls Cx hP hS hl
  have hl : lv_has ls 5 [(0, .ref (b + v0)), (1, .int v1), (2, .int v2), (3, .ref (b + v3))] := hl
  have hx := Cx.1.1
  have hb := Cx.1.2.1
  have hg := g_Me_keep v0 v1 v2 v3 h
  unfold X_Me_keep ob_this at h
  rw [if_pos hg] at h
  obtain ⟨H, hH⟩ : ∃ H, H = s.heap := ⟨_, rfl⟩
  obtain ⟨locs, hL⟩ : ∃ locs : List Loc, locs = [] := ⟨_, rfl⟩
  rw [← hH] at hP
  have hS : va_S (ob_A b) s.heap H locs := by rw [hH, hL]; exact hS
  suffices hW : W p l e R s m args below meth c H locs 0 0 (MQ below (ob_Qv b D cA out) args s 0 0 (ob_A b)) (F0 m 0 ls []) by rw [hH, hL] at hW; exact hW
  refine lv_aload_n hx hb d_Me_keep_0 rfl (lv_at hl 0 rfl) ?_
  refine lv_iload_n hx hb d_Me_keep_1 rfl (lv_at hl 1 rfl) ?_
  refine ob_cVi (nA := 1) (As := [.int v1]) (rest := []) Cx hl.1 hP hS (fun o ho => c_Me_placeOf v0 v1 ho) (fun o ho => g_Me_placeOf v0 v1 ho) (by decide) (rfl : ob_cl[2]? = _) mv_Me_placeOf w_m_Me_31 rfl (by decide +kernel) ⟨rfl, rfl⟩ ⟨by decide, by decide⟩ (Nat.le_of_ble_eq_true rfl) rfl d_Me_keep_2 h (fun x2 t2 H locs h hP hS => ?_)
  refine lv_istore (lv' := [(4, .int x2), (0, .ref (b + v0)), (1, .int v1), (2, .int v2), (3, .ref (b + v3))]) hx hb d_Me_keep_5 hl (by decide) rfl (fun ls hl => ?_)
  refine lv_iload hx hb d_Me_keep_7 (lv_at hl 0 rfl) ?_
  refine lv_iconst (v := -1) hx hb d_Me_keep_9 (by decide) ?_
  refine lv_icmp_eq (tgt := 19) hx hb d_Me_keep_10 (by decide) (fun hq => ?_) (fun hq => ?_)
  · rw [if_pos hq] at h
    exact tB_Me_keep_19 Cx t2 H locs ls v0 v1 v2 v3 hP hS (lv_sub hl [1, 2, 3, 4] rfl) h
  · rw [if_neg hq] at h
    refine lv_aload_n hx hb d_Me_keep_13 rfl (lv_at hl 1 rfl) ?_
    refine lv_iload hx hb d_Me_keep_14 (lv_at hl 0 rfl) ?_
    refine ob_cVv (nA := 1) (As := [.int x2]) (rest := []) Cx hl.1 hP hS (fun o ho => c_Me_takeOut v0 x2 ho) (fun o ho => g_Me_takeOut v0 x2 ho) (by decide) (rfl : ob_cl[2]? = _) mv_Me_takeOut w_m_Me_35 rfl (by decide +kernel) ⟨rfl, rfl⟩ ⟨by decide, by decide⟩ (Nat.le_of_ble_eq_true rfl) rfl d_Me_keep_16 h (fun t16 H locs h hP hS => ?_)
    exact tB_Me_keep_19 Cx t16 H locs ls v0 v1 v2 v3 hP hS (lv_sub hl [1, 2, 3, 4] rfl) h
set_option maxHeartbeats 4000000 in
set_option maxRecDepth 100000 in
theorem tB_Se_answer_139 {p : Program} {l : Launch} {e : Env} {R : Room} {s : State} {m : MethodId} {args : Array Value} {below : List Frame} {meth : Method} {c : Code} {b : Nat} {D : va_G} {cA : Nat → ClassId} {adK adV : Nat → Nat} {out : ob_S} (Cx : ob_C p R s m args meth c cb_Se_answer 6 "ObservedBlocks$Server" none b D cA adK adV 7 153) : ∀ (t : ob_S) (H : Heap) (locs : List Loc) (ls : Array Slot) (v0 : Nat) (v1 : Nat) (v2 : Int32), ob_H b D cA t H → va_S (ob_A b) s.heap H locs → lv_has ls 6 [(0, .ref (b + v0)), (1, .ref (b + v1)), (2, .int v2)] → B_Se_answer_139 v0 v1 v2 t = some out → W p l e R s m args below meth c H locs 0 0 (MQ below (ob_Qv b D cA out) args s 0 0 (ob_A b)) (F0 m 139 ls []) := by
  have hx := Cx.1.1
  have hb := Cx.1.2.1
  intro t H locs ls v0 v1 v2 hP hS hl h
  unfold B_Se_answer_139 at h
  refine lv_aload_n hx hb d_Se_answer_139 rfl (lv_at hl 0 rfl) ?_
  refine ob_getR (k := 6) Cx hP ck_9 rfl w_f_Se_33 d_Se_answer_140 h (fun n140 h => ?_)
  refine lv_aload_n hx hb d_Se_answer_143 rfl (lv_at hl 1 rfl) ?_
  refine ob_getI (k := 2) Cx hP ck_8 rfl w_f_Se_55 d_Se_answer_144 h (fun x144 h => ?_)
  refine lv_iload_n hx hb d_Se_answer_147 rfl (lv_at hl 2 rfl) ?_
  refine lv_aload_n hx hb d_Se_answer_148 rfl (lv_at hl 0 rfl) ?_
  refine ob_getR (k := 8) Cx hP ck_9 rfl w_f_Se_44 d_Se_answer_149 h (fun n149 h => ?_)
  refine ob_getR (k := 0) Cx hP ck_4 rfl w_f_Se_105 d_Se_answer_152 h (fun n152 h => ?_)
  refine ob_cVv (nA := 3) (As := [.int x144, .int v2, .ref (b + n152)]) (rest := []) Cx hl.1 hP hS (fun o ho => c_Me_keep n140 x144 v2 n152 ho) (fun o ho => g_Me_keep n140 x144 v2 n152 ho) (by decide) (rfl : ob_cl[2]? = _) mv_Me_keep w_m_Se_109 rfl (by decide +kernel) ⟨rfl, rfl⟩ ⟨by decide, by decide⟩ (Nat.le_of_ble_eq_true rfl) rfl d_Se_answer_155 h (fun t155 H locs h hP hS => ?_)
  refine lv_aload_n hx hb d_Se_answer_158 rfl (lv_at hl 0 rfl) ?_
  refine ob_getR (k := 7) Cx hP ck_9 rfl w_f_Se_37 d_Se_answer_159 h (fun n159 h => ?_)
  refine lv_aload_n hx hb d_Se_answer_162 rfl (lv_at hl 0 rfl) ?_
  refine ob_getR (k := 8) Cx hP ck_9 rfl w_f_Se_44 d_Se_answer_163 h (fun n163 h => ?_)
  refine ob_getR (k := 0) Cx hP ck_4 rfl w_f_Se_105 d_Se_answer_166 h (fun n166 h => ?_)
  refine lv_iconst (v := 0) hx hb d_Se_answer_169 (by decide) ?_
  refine ob_cVv (nA := 2) (As := [.ref (b + n166), .int (0 : Int32)]) (rest := []) Cx hl.1 hP hS (fun o ho => c_Li_send n159 n166 (0 : Int32) ho) (fun o ho => g_Li_send n159 n166 (0 : Int32) ho) (by decide) (rfl : ob_cl[1]? = _) mv_Li_send w_m_Se_67 rfl (by decide +kernel) ⟨rfl, rfl⟩ ⟨by decide, by decide⟩ (Nat.le_of_ble_eq_true rfl) rfl d_Se_answer_170 h (fun t170 H locs h hP hS => ?_)
  exact ob_vret Cx hP hS d_Se_answer_173 h
set_option maxHeartbeats 4000000 in
set_option maxRecDepth 100000 in
theorem tB_Se_answer_75 {p : Program} {l : Launch} {e : Env} {R : Room} {s : State} {m : MethodId} {args : Array Value} {below : List Frame} {meth : Method} {c : Code} {b : Nat} {D : va_G} {cA : Nat → ClassId} {adK adV : Nat → Nat} {out : ob_S} (Cx : ob_C p R s m args meth c cb_Se_answer 6 "ObservedBlocks$Server" none b D cA adK adV 7 153) : ∀ (t : ob_S) (H : Heap) (locs : List Loc) (ls : Array Slot) (v0 : Nat) (v1 : Nat) (v2 : Int32) (v4 : Int32) (v5 : Int32), ob_H b D cA t H → va_S (ob_A b) s.heap H locs → lv_has ls 6 [(0, .ref (b + v0)), (1, .ref (b + v1)), (2, .int v2), (4, .int v4), (5, .int v5)] → B_Se_answer_75 v0 v1 v2 v4 v5 t = some out → W p l e R s m args below meth c H locs 0 0 (MQ below (ob_Qv b D cA out) args s 0 0 (ob_A b)) (F0 m 75 ls []) := by
  have hx := Cx.1.1
  have hb := Cx.1.2.1
  intro t H locs ls v0 v1 v2 v4 v5 hP hS hl h
  unfold B_Se_answer_75 at h
  refine lv_aload_n hx hb d_Se_answer_75 rfl (lv_at hl 0 rfl) ?_
  refine ob_getR (k := 8) Cx hP ck_9 rfl w_f_Se_44 d_Se_answer_76 h (fun n76 h => ?_)
  refine lv_iconst (v := 2) hx hb d_Se_answer_79 (by decide) ?_
  refine lv_iload hx hb d_Se_answer_80 (lv_at hl 4 rfl) ?_
  refine lv_aload_n hx hb d_Se_answer_82 rfl (lv_at hl 1 rfl) ?_
  refine ob_getI (k := 2) Cx hP ck_8 rfl w_f_Se_55 d_Se_answer_83 h (fun x83 h => ?_)
  refine lv_aload_n hx hb d_Se_answer_86 rfl (lv_at hl 1 rfl) ?_
  refine ob_getI (k := 3) Cx hP ck_8 rfl w_f_Se_87 d_Se_answer_87 h (fun x87 h => ?_)
  refine ob_cVv (nA := 4) (As := [.int (2 : Int32), .int v5, .int x83, .int x87]) (rest := []) Cx hl.1 hP hS (fun o ho => c_Wr_begin n76 (2 : Int32) v5 x83 x87 ho) (fun o ho => g_Wr_begin n76 (2 : Int32) v5 x83 x87 ho) (by decide) (rfl : ob_cl[4]? = _) mv_Wr_begin w_m_Se_90 rfl (by decide +kernel) ⟨rfl, rfl⟩ ⟨by decide, by decide⟩ (Nat.le_of_ble_eq_true rfl) rfl d_Se_answer_90 h (fun t90 H locs h hP hS => ?_)
  refine lv_iload hx hb d_Se_answer_93 (lv_at hl 4 rfl) ?_
  refine lv_bipush (v := 69) hx hb d_Se_answer_95 (by decide) ?_
  refine lv_icmp_ne (tgt := 110) hx hb d_Se_answer_97 (by decide) (fun hq => ?_) (fun hq => ?_)
  · rw [if_pos hq] at h
    refine lv_iload hx hb d_Se_answer_110 (lv_at hl 4 rfl) ?_
    refine lv_sipush (v := 132) hx hb d_Se_answer_112 (by decide) ?_
    refine lv_icmp_eq (tgt := 139) hx hb d_Se_answer_115 (by decide) (fun hq => ?_) (fun hq => ?_)
    · rw [if_pos hq] at h
      exact tB_Se_answer_139 Cx t90 H locs ls v0 v1 v2 hP hS (lv_sub hl [0, 1, 2] rfl) h
    · rw [if_neg hq] at h
      refine lv_iload hx hb d_Se_answer_118 (lv_at hl 4 rfl) ?_
      refine lv_sipush (v := 130) hx hb d_Se_answer_120 (by decide) ?_
      refine lv_icmp_eq (tgt := 139) hx hb d_Se_answer_123 (by decide) (fun hq => ?_) (fun hq => ?_)
      · rw [if_pos hq] at h
        exact tB_Se_answer_139 Cx t90 H locs ls v0 v1 v2 hP hS (lv_sub hl [0, 1, 2] rfl) h
      · rw [if_neg hq] at h
        refine lv_aload_n hx hb d_Se_answer_126 rfl (lv_at hl 0 rfl) ?_
        refine ob_getR (k := 8) Cx hP ck_9 rfl w_f_Se_44 d_Se_answer_127 h (fun n127 h => ?_)
        refine lv_bipush (v := 27) hx hb d_Se_answer_130 (by decide) ?_
        refine lv_aload_n hx hb d_Se_answer_132 rfl (lv_at hl 1 rfl) ?_
        refine ob_getI (k := 6) Cx hP ck_8 rfl w_f_Se_98 d_Se_answer_133 h (fun x133 h => ?_)
        refine ob_cVv (nA := 2) (As := [.int (27 : Int32), .int x133]) (rest := []) Cx hl.1 hP hS (fun o ho => c_Wr_addNumber n127 (27 : Int32) x133 ho) (fun o ho => g_Wr_addNumber n127 (27 : Int32) x133 ho) (by decide) (rfl : ob_cl[4]? = _) mv_Wr_addNumber w_m_Se_101 rfl (by decide +kernel) ⟨rfl, rfl⟩ ⟨by decide, by decide⟩ (Nat.le_of_ble_eq_true rfl) rfl d_Se_answer_136 h (fun t136 H locs h hP hS => ?_)
        exact tB_Se_answer_139 Cx t136 H locs ls v0 v1 v2 hP hS (lv_sub hl [0, 1, 2] rfl) h
  · rw [if_neg (fun z => z hq)] at h
    refine lv_aload_n hx hb d_Se_answer_100 rfl (lv_at hl 0 rfl) ?_
    refine lv_aload_n hx hb d_Se_answer_101 rfl (lv_at hl 1 rfl) ?_
    refine lv_iload hx hb d_Se_answer_102 (lv_at hl 3 rfl) ?_
    refine ob_cVv (nA := 2) (As := [.ref (b + v1), .int v4]) (rest := []) Cx hl.1 hP hS (fun o ho => c_Se_addContent v0 v1 v4 ho) (fun o ho => g_Se_addContent v0 v1 v4 ho) (by decide) (rfl : ob_cl[9]? = _) mv_Se_addContent w_m_Se_94 rfl (by decide +kernel) ⟨rfl, rfl⟩ ⟨by decide, by decide⟩ (Nat.le_of_ble_eq_true rfl) rfl d_Se_answer_104 h (fun t104 H locs h hP hS => ?_)
    refine lv_goto (tgt := 139) hx hb d_Se_answer_107 (by decide) ?_
    exact tB_Se_answer_139 Cx t104 H locs ls v0 v1 v2 hP hS (lv_sub hl [0, 1, 2] rfl) h
theorem g_Se_answer (v0 : Nat) (v1 : Nat) (v2 : Int32) {t : ob_S} {out : ob_S} (h : X_Se_answer v0 v1 v2 t = some out) : v0 < ob_n t ∧ ob_k t v0 = 9 := by
  unfold X_Se_answer ob_this at h
  by_cases q : v0 < ob_n t ∧ ob_k t v0 = 9
  · exact q
  · rw [if_neg q] at h
    cases h
set_option maxHeartbeats 4000000 in
set_option maxRecDepth 100000 in
theorem c_Se_answer {l : Launch} {b : Nat} {D : va_G} {cA : Nat → ClassId} {adK adV : Nat → Nat} (v0 : Nat) (v1 : Nat) (v2 : Int32) {t : ob_S} {out : ob_S} (h : X_Se_answer v0 v1 v2 t = some out) : Met l y_Se_answer (Cond.code y_Se_answer cb_Se_answer 6 none :: ob_T) { frames := 7, cells := 0, slots := 0, locals := 153 } (ob_Pre b D cA adK adV [.ref (b + v0), .ref (b + v1), .int v2] t) (ob_Qv b D cA out) 0 0 (ob_A b) := by
  refine ob_met (by decide) (Nat.le_of_ble_eq_true rfl) ?_
  intro p e R s m args below meth c ls Cx hP hS hl
  have hl : lv_has ls 6 [(0, .ref (b + v0)), (1, .ref (b + v1)), (2, .int v2)] := hl
  have hx := Cx.1.1
  have hb := Cx.1.2.1
  have hg := g_Se_answer v0 v1 v2 h
  unfold X_Se_answer ob_this at h
  rw [if_pos hg] at h
  obtain ⟨H, hH⟩ : ∃ H, H = s.heap := ⟨_, rfl⟩
  obtain ⟨locs, hL⟩ : ∃ locs : List Loc, locs = [] := ⟨_, rfl⟩
  rw [← hH] at hP
  have hS : va_S (ob_A b) s.heap H locs := by rw [hH, hL]; exact hS
  suffices hW : W p l e R s m args below meth c H locs 0 0 (MQ below (ob_Qv b D cA out) args s 0 0 (ob_A b)) (F0 m 0 ls []) by rw [hH, hL] at hW; exact hW
  refine lv_aload_n hx hb d_Se_answer_0 rfl (lv_at hl 0 rfl) ?_
  refine ob_getR (k := 6) Cx hP ck_9 rfl w_f_Se_33 d_Se_answer_1 h (fun n1 h => ?_)
  refine lv_aload_n hx hb d_Se_answer_4 rfl (lv_at hl 1 rfl) ?_
  refine ob_getI (k := 2) Cx hP ck_8 rfl w_f_Se_55 d_Se_answer_5 h (fun x5 h => ?_)
  refine lv_iload_n hx hb d_Se_answer_8 rfl (lv_at hl 2 rfl) ?_
  refine ob_cVi (nA := 2) (As := [.int x5, .int v2]) (rest := []) Cx hl.1 hP hS (fun o ho => c_Me_find n1 x5 v2 ho) (fun o ho => g_Me_find n1 x5 v2 ho) (by decide) (rfl : ob_cl[2]? = _) mv_Me_find w_m_Se_60 rfl (by decide +kernel) ⟨rfl, rfl⟩ ⟨by decide, by decide⟩ (Nat.le_of_ble_eq_true rfl) rfl d_Se_answer_9 h (fun x9 t9 H locs h hP hS => ?_)
  refine lv_istore_n (lv' := [(3, .int x9), (0, .ref (b + v0)), (1, .ref (b + v1)), (2, .int v2)]) hx hb d_Se_answer_12 rfl hl (by decide) rfl (fun ls hl => ?_)
  refine lv_iload_n hx hb d_Se_answer_13 rfl (lv_at hl 0 rfl) ?_
  refine lv_iconst (v := -1) hx hb d_Se_answer_14 (by decide) ?_
  refine lv_icmp_eq (tgt := 36) hx hb d_Se_answer_15 (by decide) (fun hq => ?_) (fun hq => ?_)
  · rw [if_pos hq] at h
    refine lv_aload_n hx hb d_Se_answer_36 rfl (lv_at hl 1 rfl) ?_
    refine lv_dup hx hb d_Se_answer_37 rfl ?_
    refine ob_getI (k := 1) Cx hP ck_9 rfl w_f_Se_73 d_Se_answer_38 h (fun x38 h => ?_)
    refine lv_iconst (v := 1) hx hb d_Se_answer_41 (by decide) ?_
    refine lv_iadd hx hb d_Se_answer_42 ?_
    refine ob_putI (k := 1) Cx hP hS ck_9 rfl rfl rfl w_f_Se_73 d_Se_answer_43 h (fun t43 H locs h hP hS => ?_)
    refine lv_aload_n hx hb d_Se_answer_46 rfl (lv_at hl 1 rfl) ?_
    refine lv_aload_n hx hb d_Se_answer_47 rfl (lv_at hl 2 rfl) ?_
    refine ob_cVi (nA := 1) (As := [.ref (b + v1)]) (rest := []) Cx hl.1 hP hS (fun o ho => c_Se_resourceUnder v0 v1 ho) (fun o ho => g_Se_resourceUnder v0 v1 ho) (by decide) (rfl : ob_cl[9]? = _) mv_Se_resourceUnder w_m_Se_76 rfl (by decide +kernel) ⟨rfl, rfl⟩ ⟨by decide, by decide⟩ (Nat.le_of_ble_eq_true rfl) rfl d_Se_answer_48 h (fun x48 t48 H locs h hP hS => ?_)
    refine lv_istore (lv' := [(4, .int x48), (3, .int x9), (0, .ref (b + v0)), (1, .ref (b + v1)), (2, .int v2)]) hx hb d_Se_answer_51 hl (by decide) rfl (fun ls hl => ?_)
    refine lv_aload_n hx hb d_Se_answer_53 rfl (lv_at hl 2 rfl) ?_
    refine lv_aload_n hx hb d_Se_answer_54 rfl (lv_at hl 3 rfl) ?_
    refine lv_iload hx hb d_Se_answer_55 (lv_at hl 0 rfl) ?_
    refine ob_cVi (nA := 2) (As := [.ref (b + v1), .int x48]) (rest := []) Cx hl.1 hP hS (fun o ho => c_Se_handle v0 v1 x48 ho) (fun o ho => g_Se_handle v0 v1 x48 ho) (by decide) (rfl : ob_cl[9]? = _) mv_Se_handle w_m_Se_80 rfl (by decide +kernel) ⟨rfl, rfl⟩ ⟨by decide, by decide⟩ (Nat.le_of_ble_eq_true rfl) rfl d_Se_answer_57 h (fun x57 t57 H locs h hP hS => ?_)
    refine lv_istore (lv' := [(5, .int x57), (4, .int x48), (3, .int x9), (0, .ref (b + v0)), (1, .ref (b + v1)), (2, .int v2)]) hx hb d_Se_answer_60 hl (by decide) rfl (fun ls hl => ?_)
    refine lv_iload hx hb d_Se_answer_62 (lv_at hl 0 rfl) ?_
    refine lv_bipush (v := 68) hx hb d_Se_answer_64 (by decide) ?_
    refine lv_icmp_ne (tgt := 75) hx hb d_Se_answer_66 (by decide) (fun hq => ?_) (fun hq => ?_)
    · rw [if_pos hq] at h
      exact tB_Se_answer_75 Cx t57 H locs ls v0 v1 v2 x48 x57 hP hS (lv_sub hl [3, 4, 5, 1, 0] rfl) h
    · rw [if_neg (fun z => z hq)] at h
      refine lv_aload_n hx hb d_Se_answer_69 rfl (lv_at hl 3 rfl) ?_
      refine lv_iload hx hb d_Se_answer_70 (lv_at hl 1 rfl) ?_
      refine ob_cVv (nA := 1) (As := [.int x48]) (rest := []) Cx hl.1 hP hS (fun o ho => c_Se_tellWatchersOf v0 x48 ho) (fun o ho => g_Se_tellWatchersOf v0 x48 ho) (by decide) (rfl : ob_cl[9]? = _) mv_Se_tellWatchersOf w_m_Se_84 rfl (by decide +kernel) ⟨rfl, rfl⟩ ⟨by decide, by decide⟩ (Nat.le_of_ble_eq_true rfl) rfl d_Se_answer_72 h (fun t72 H locs h hP hS => ?_)
      exact tB_Se_answer_75 Cx t72 H locs ls v0 v1 v2 x48 x57 hP hS (lv_sub hl [3, 4, 5, 1, 0] rfl) h
  · rw [if_neg hq] at h
    refine lv_aload_n hx hb d_Se_answer_18 rfl (lv_at hl 1 rfl) ?_
    refine ob_getR (k := 7) Cx hP ck_9 rfl w_f_Se_37 d_Se_answer_19 h (fun n19 h => ?_)
    refine lv_aload_n hx hb d_Se_answer_22 rfl (lv_at hl 1 rfl) ?_
    refine ob_getR (k := 6) Cx hP ck_9 rfl w_f_Se_33 d_Se_answer_23 h (fun n23 h => ?_)
    refine ob_getR (k := 0) Cx hP ck_2 rfl w_f_Se_64 d_Se_answer_26 h (fun n26 h => ?_)
    refine lv_iload_n hx hb d_Se_answer_29 rfl (lv_at hl 0 rfl) ?_
    refine ob_aldR (kd := 14) Cx hP (by decide) rfl d_Se_answer_30 h (fun n30 h => ?_)
    refine lv_iconst (v := 0) hx hb d_Se_answer_31 (by decide) ?_
    refine ob_cVv (nA := 2) (As := [.ref (b + n30), .int (0 : Int32)]) (rest := []) Cx hl.1 hP hS (fun o ho => c_Li_send n19 n30 (0 : Int32) ho) (fun o ho => g_Li_send n19 n30 (0 : Int32) ho) (by decide) (rfl : ob_cl[1]? = _) mv_Li_send w_m_Se_67 rfl (by decide +kernel) ⟨rfl, rfl⟩ ⟨by decide, by decide⟩ (Nat.le_of_ble_eq_true rfl) rfl d_Se_answer_32 h (fun t32 H locs h hP hS => ?_)
    exact ob_vret Cx hP hS d_Se_answer_35 h
set_option maxHeartbeats 4000000 in
set_option maxRecDepth 100000 in
theorem tB_Se_receiveReceipt_26 {p : Program} {l : Launch} {e : Env} {R : Room} {s : State} {m : MethodId} {args : Array Value} {below : List Frame} {meth : Method} {c : Code} {b : Nat} {D : va_G} {cA : Nat → ClassId} {adK adV : Nat → Nat} {out : ob_S} (Cx : ob_C p R s m args meth c cb_Se_receiveReceipt 3 "ObservedBlocks$Server" none b D cA adK adV 4 96) : ∀ (fu : Nat), ∀ (t : ob_S) (H : Heap) (locs : List Loc) (ls : Array Slot) (v0 : Nat) (v1 : Nat) (v2 : Int32), ob_H b D cA t H → va_S (ob_A b) s.heap H locs → lv_has ls 3 [(0, .ref (b + v0)), (1, .ref (b + v1)), (2, .int v2)] → B_Se_receiveReceipt_26 fu v0 v1 v2 t = some out → W p l e R s m args below meth c H locs 0 0 (MQ below (ob_Qv b D cA out) args s 0 0 (ob_A b)) (F0 m 26 ls []) := by
  have hx := Cx.1.1
  have hb := Cx.1.2.1
  intro fu
  induction fu with
  | zero =>
    intro t H locs ls v0 v1 v2 hP hS hl h
    cases h
  | succ fu ih =>
    intro t H locs ls v0 v1 v2 hP hS hl h
    rw [B_Se_receiveReceipt_26] at h
    refine lv_iload_n hx hb d_Se_receiveReceipt_26 rfl (lv_at hl 2 rfl) ?_
    refine lv_aload_n hx hb d_Se_receiveReceipt_27 rfl (lv_at hl 0 rfl) ?_
    refine ob_getI (k := 2) Cx hP ck_9 rfl w_f_Se_183 d_Se_receiveReceipt_28 h (fun x28 h => ?_)
    refine lv_icmp_ge (tgt := 110) hx hb d_Se_receiveReceipt_31 (by decide) (fun hq => ?_) (fun hq => ?_)
    · rw [if_pos hq] at h
      exact ob_vret Cx hP hS d_Se_receiveReceipt_110 h
    · rw [if_neg hq] at h
      refine lv_aload_n hx hb d_Se_receiveReceipt_34 rfl (lv_at hl 0 rfl) ?_
      refine ob_getR (k := 5) Cx hP ck_9 rfl w_f_Se_25 d_Se_receiveReceipt_35 h (fun n35 h => ?_)
      refine lv_iload_n hx hb d_Se_receiveReceipt_38 rfl (lv_at hl 2 rfl) ?_
      refine ob_aldR (kd := 16) Cx hP (by decide) rfl d_Se_receiveReceipt_39 h (fun n39 h => ?_)
      refine ob_getR (k := 0) Cx hP ck_5 rfl w_f_Se_190 d_Se_receiveReceipt_40 h (fun n40 h => ?_)
      refine lv_aload_n hx hb d_Se_receiveReceipt_43 rfl (lv_at hl 1 rfl) ?_
      refine ob_getI (k := 2) Cx hP ck_8 rfl w_f_Se_55 d_Se_receiveReceipt_44 h (fun x44 h => ?_)
      refine ob_cVi (nA := 1) (As := [.int x44]) (rest := []) Cx hl.1 hP hS (fun o ho => c_Pe_isFor n40 x44 ho) (fun o ho => g_Pe_isFor n40 x44 ho) (by decide) (rfl : ob_cl[3]? = _) mv_Pe_isFor w_m_Se_224 rfl (by decide +kernel) ⟨rfl, rfl⟩ ⟨by decide, by decide⟩ (Nat.le_of_ble_eq_true rfl) rfl d_Se_receiveReceipt_47 h (fun x47 t47 H locs h hP hS => ?_)
      refine lv_if_eq (tgt := 104) hx hb d_Se_receiveReceipt_50 (by decide) (fun hq => ?_) (fun hq => ?_)
      · rw [if_pos hq] at h
        refine lv_iinc (v := (v2 + (1 : Int32))) (lv' := [(2, .int (v2 + (1 : Int32))), (0, .ref (b + v0)), (1, .ref (b + v1))]) hx hb d_Se_receiveReceipt_104 hl (k := 2) rfl rfl (by decide) rfl (fun ls hl => ?_)
        refine lv_goto (tgt := 26) hx hb d_Se_receiveReceipt_107 (by decide) ?_
        exact ih t47 H locs ls v0 v1 (v2 + (1 : Int32)) hP hS (lv_sub hl [1, 2, 0] rfl) h
      · rw [if_neg hq] at h
        refine lv_aload_n hx hb d_Se_receiveReceipt_53 rfl (lv_at hl 0 rfl) ?_
        refine ob_getR (k := 5) Cx hP ck_9 rfl w_f_Se_25 d_Se_receiveReceipt_54 h (fun n54 h => ?_)
        refine lv_iload_n hx hb d_Se_receiveReceipt_57 rfl (lv_at hl 2 rfl) ?_
        refine ob_aldR (kd := 16) Cx hP (by decide) rfl d_Se_receiveReceipt_58 h (fun n58 h => ?_)
        refine ob_getR (k := 0) Cx hP ck_5 rfl w_f_Se_190 d_Se_receiveReceipt_59 h (fun n59 h => ?_)
        refine ob_cVv (nA := 0) (As := []) (rest := []) Cx hl.1 hP hS (fun o ho => c_Pe_stop n59 ho) (fun o ho => g_Pe_stop n59 ho) (by decide) (rfl : ob_cl[3]? = _) mv_Pe_stop w_m_Se_194 rfl (by decide +kernel) ⟨rfl, rfl⟩ ⟨by decide, by decide⟩ (Nat.le_of_ble_eq_true rfl) rfl d_Se_receiveReceipt_62 h (fun t62 H locs h hP hS => ?_)
        refine lv_aload_n hx hb d_Se_receiveReceipt_65 rfl (lv_at hl 1 rfl) ?_
        refine ob_getI (k := 0) Cx hP ck_8 rfl w_f_Se_221 d_Se_receiveReceipt_66 h (fun x66 h => ?_)
        refine lv_iconst (v := 3) hx hb d_Se_receiveReceipt_69 (by decide) ?_
        refine lv_icmp_ne (tgt := 81) hx hb d_Se_receiveReceipt_70 (by decide) (fun hq => ?_) (fun hq => ?_)
        · rw [if_pos hq] at h
          refine lv_aload_n hx hb d_Se_receiveReceipt_81 rfl (lv_at hl 0 rfl) ?_
          refine ob_getR (k := 5) Cx hP ck_9 rfl w_f_Se_25 d_Se_receiveReceipt_82 h (fun n82 h => ?_)
          refine lv_iload_n hx hb d_Se_receiveReceipt_85 rfl (lv_at hl 2 rfl) ?_
          refine ob_aldR (kd := 16) Cx hP (by decide) rfl d_Se_receiveReceipt_86 h (fun n86 h => ?_)
          refine ob_getI (k := 4) Cx hP ck_5 rfl w_f_Se_210 d_Se_receiveReceipt_87 h (fun x87 h => ?_)
          refine lv_if_eq (tgt := 103) hx hb d_Se_receiveReceipt_90 (by decide) (fun hq => ?_) (fun hq => ?_)
          · rw [if_pos hq] at h
            exact ob_vret Cx hP hS d_Se_receiveReceipt_103 h
          · rw [if_neg hq] at h
            refine lv_aload_n hx hb d_Se_receiveReceipt_93 rfl (lv_at hl 0 rfl) ?_
            refine lv_aload_n hx hb d_Se_receiveReceipt_94 rfl (lv_at hl 0 rfl) ?_
            refine ob_getR (k := 5) Cx hP ck_9 rfl w_f_Se_25 d_Se_receiveReceipt_95 h (fun n95 h => ?_)
            refine lv_iload_n hx hb d_Se_receiveReceipt_98 rfl (lv_at hl 2 rfl) ?_
            refine ob_aldR (kd := 16) Cx hP (by decide) rfl d_Se_receiveReceipt_99 h (fun n99 h => ?_)
            refine ob_cVv (nA := 1) (As := [.ref (b + n99)]) (rest := []) Cx hl.1 hP hS (fun o ho => c_Se_tell v0 n99 ho) (fun o ho => g_Se_tell v0 n99 ho) (by decide) (rfl : ob_cl[9]? = _) mv_Se_tell w_m_Se_202 rfl (by decide +kernel) ⟨rfl, rfl⟩ ⟨by decide, by decide⟩ (Nat.le_of_ble_eq_true rfl) rfl d_Se_receiveReceipt_100 h (fun t100 H locs h hP hS => ?_)
            exact ob_vret Cx hP hS d_Se_receiveReceipt_103 h
        · rw [if_neg (fun z => z hq)] at h
          refine lv_aload_n hx hb d_Se_receiveReceipt_73 rfl (lv_at hl 0 rfl) ?_
          refine lv_iload_n hx hb d_Se_receiveReceipt_74 rfl (lv_at hl 2 rfl) ?_
          refine ob_cVv (nA := 1) (As := [.int v2]) (rest := []) Cx hl.1 hP hS (fun o ho => c_Se_endWatch v0 v2 ho) (fun o ho => g_Se_endWatch v0 v2 ho) (by decide) (rfl : ob_cl[9]? = _) mv_Se_endWatch w_m_Se_169 rfl (by decide +kernel) ⟨rfl, rfl⟩ ⟨by decide, by decide⟩ (Nat.le_of_ble_eq_true rfl) rfl d_Se_receiveReceipt_75 h (fun t75 H locs h hP hS => ?_)
          refine lv_goto (tgt := 103) hx hb d_Se_receiveReceipt_78 (by decide) ?_
          exact ob_vret Cx hP hS d_Se_receiveReceipt_103 h
set_option maxHeartbeats 4000000 in
set_option maxRecDepth 100000 in
theorem tB_Se_receiveReceipt_24 {p : Program} {l : Launch} {e : Env} {R : Room} {s : State} {m : MethodId} {args : Array Value} {below : List Frame} {meth : Method} {c : Code} {b : Nat} {D : va_G} {cA : Nat → ClassId} {adK adV : Nat → Nat} {out : ob_S} (Cx : ob_C p R s m args meth c cb_Se_receiveReceipt 3 "ObservedBlocks$Server" none b D cA adK adV 4 96) : ∀ (t : ob_S) (H : Heap) (locs : List Loc) (ls : Array Slot) (v0 : Nat) (v1 : Nat), ob_H b D cA t H → va_S (ob_A b) s.heap H locs → lv_has ls 3 [(0, .ref (b + v0)), (1, .ref (b + v1))] → B_Se_receiveReceipt_24 v0 v1 t = some out → W p l e R s m args below meth c H locs 0 0 (MQ below (ob_Qv b D cA out) args s 0 0 (ob_A b)) (F0 m 24 ls []) := by
  have hx := Cx.1.1
  have hb := Cx.1.2.1
  intro t H locs ls v0 v1 hP hS hl h
  unfold B_Se_receiveReceipt_24 at h
  refine lv_iconst (v := 0) hx hb d_Se_receiveReceipt_24 (by decide) ?_
  refine lv_istore_n (lv' := [(2, .int (0 : Int32)), (0, .ref (b + v0)), (1, .ref (b + v1))]) hx hb d_Se_receiveReceipt_25 rfl hl (by decide) rfl (fun ls hl => ?_)
  exact tB_Se_receiveReceipt_26 Cx ob_fu t H locs ls v0 v1 (0 : Int32) hP hS (lv_sub hl [1, 2, 0] rfl) h
theorem g_Se_receiveReceipt (v0 : Nat) (v1 : Nat) {t : ob_S} {out : ob_S} (h : X_Se_receiveReceipt v0 v1 t = some out) : v0 < ob_n t ∧ ob_k t v0 = 9 := by
  unfold X_Se_receiveReceipt ob_this at h
  by_cases q : v0 < ob_n t ∧ ob_k t v0 = 9
  · exact q
  · rw [if_neg q] at h
    cases h
set_option maxHeartbeats 4000000 in
set_option maxRecDepth 100000 in
theorem c_Se_receiveReceipt {l : Launch} {b : Nat} {D : va_G} {cA : Nat → ClassId} {adK adV : Nat → Nat} (v0 : Nat) (v1 : Nat) {t : ob_S} {out : ob_S} (h : X_Se_receiveReceipt v0 v1 t = some out) : Met l y_Se_receiveReceipt (Cond.code y_Se_receiveReceipt cb_Se_receiveReceipt 3 none :: ob_T) { frames := 4, cells := 0, slots := 0, locals := 96 } (ob_Pre b D cA adK adV [.ref (b + v0), .ref (b + v1)] t) (ob_Qv b D cA out) 0 0 (ob_A b) := by
  refine ob_met (by decide) (Nat.le_of_ble_eq_true rfl) ?_
  intro p e R s m args below meth c ls Cx hP hS hl
  have hl : lv_has ls 3 [(0, .ref (b + v0)), (1, .ref (b + v1))] := hl
  have hx := Cx.1.1
  have hb := Cx.1.2.1
  have hg := g_Se_receiveReceipt v0 v1 h
  unfold X_Se_receiveReceipt ob_this at h
  rw [if_pos hg] at h
  obtain ⟨H, hH⟩ : ∃ H, H = s.heap := ⟨_, rfl⟩
  obtain ⟨locs, hL⟩ : ∃ locs : List Loc, locs = [] := ⟨_, rfl⟩
  rw [← hH] at hP
  have hS : va_S (ob_A b) s.heap H locs := by rw [hH, hL]; exact hS
  suffices hW : W p l e R s m args below meth c H locs 0 0 (MQ below (ob_Qv b D cA out) args s 0 0 (ob_A b)) (F0 m 0 ls []) by rw [hH, hL] at hW; exact hW
  refine lv_aload_n hx hb d_Se_receiveReceipt_0 rfl (lv_at hl 1 rfl) ?_
  refine ob_getI (k := 1) Cx hP ck_8 rfl w_f_Se_117 d_Se_receiveReceipt_1 h (fun x1 h => ?_)
  refine lv_if_ne (tgt := 23) hx hb d_Se_receiveReceipt_4 (by decide) (fun hq => ?_) (fun hq => ?_)
  · rw [if_pos hq] at h
    exact ob_vret Cx hP hS d_Se_receiveReceipt_23 h
  · rw [if_neg (fun z => z hq)] at h
    refine lv_aload_n hx hb d_Se_receiveReceipt_7 rfl (lv_at hl 1 rfl) ?_
    refine ob_getI (k := 0) Cx hP ck_8 rfl w_f_Se_221 d_Se_receiveReceipt_8 h (fun x8 h => ?_)
    refine lv_iconst (v := 2) hx hb d_Se_receiveReceipt_11 (by decide) ?_
    refine lv_icmp_eq (tgt := 24) hx hb d_Se_receiveReceipt_12 (by decide) (fun hq => ?_) (fun hq => ?_)
    · rw [if_pos hq] at h
      exact tB_Se_receiveReceipt_24 Cx t H locs ls v0 v1 hP hS (lv_sub hl [0, 1] rfl) h
    · rw [if_neg hq] at h
      refine lv_aload_n hx hb d_Se_receiveReceipt_15 rfl (lv_at hl 1 rfl) ?_
      refine ob_getI (k := 0) Cx hP ck_8 rfl w_f_Se_221 d_Se_receiveReceipt_16 h (fun x16 h => ?_)
      refine lv_iconst (v := 3) hx hb d_Se_receiveReceipt_19 (by decide) ?_
      refine lv_icmp_eq (tgt := 24) hx hb d_Se_receiveReceipt_20 (by decide) (fun hq => ?_) (fun hq => ?_)
      · rw [if_pos hq] at h
        exact tB_Se_receiveReceipt_24 Cx t H locs ls v0 v1 hP hS (lv_sub hl [0, 1] rfl) h
      · rw [if_neg hq] at h
        exact ob_vret Cx hP hS d_Se_receiveReceipt_23 h
set_option maxHeartbeats 4000000 in
set_option maxRecDepth 100000 in
theorem tB_Ob_deliver_117 {p : Program} {l : Launch} {e : Env} {R : Room} {s : State} {m : MethodId} {args : Array Value} {below : List Frame} {meth : Method} {c : Code} {b : Nat} {D : va_G} {cA : Nat → ClassId} {adK adV : Nat → Nat} {out : (Int32 × ob_S)} (Cx : ob_C p R s m args meth c cb_Ob_deliver 4 "ObservedBlocks" (some .int) b D cA adK adV 8 178) : ∀ (t : ob_S) (H : Heap) (locs : List Loc) (ls : Array Slot) (v0 : Nat), ob_H b D cA t H → va_S (ob_A b) s.heap H locs → lv_has ls 4 [(0, .ref (b + v0))] → B_Ob_deliver_117 v0 t = some out → W p l e R s m args below meth c H locs 0 0 (MQ below (ob_Qi b D cA out) args s 0 0 (ob_A b)) (F0 m 117 ls []) := by
  have hx := Cx.1.1
  have hb := Cx.1.2.1
  intro t H locs ls v0 hP hS hl h
  unfold B_Ob_deliver_117 at h
  refine lv_aload_n hx hb d_Ob_deliver_117 rfl (lv_at hl 0 rfl) ?_
  refine ob_getR (k := 0) Cx hP ck_10 rfl w_f_Ob_10 d_Ob_deliver_118 h (fun n118 h => ?_)
  refine ob_getI (k := 2) Cx hP ck_1 rfl w_f_Ob_129 d_Ob_deliver_121 h (fun x121 h => ?_)
  exact ob_iret Cx hP hS d_Ob_deliver_124 h
set_option maxHeartbeats 4000000 in
set_option maxRecDepth 100000 in
theorem tB_Ob_deliver_102 {p : Program} {l : Launch} {e : Env} {R : Room} {s : State} {m : MethodId} {args : Array Value} {below : List Frame} {meth : Method} {c : Code} {b : Nat} {D : va_G} {cA : Nat → ClassId} {adK adV : Nat → Nat} {out : (Int32 × ob_S)} (Cx : ob_C p R s m args meth c cb_Ob_deliver 4 "ObservedBlocks" (some .int) b D cA adK adV 8 178) : ∀ (t : ob_S) (H : Heap) (locs : List Loc) (ls : Array Slot) (v0 : Nat) (v3 : Int32), ob_H b D cA t H → va_S (ob_A b) s.heap H locs → lv_has ls 4 [(0, .ref (b + v0)), (3, .int v3)] → B_Ob_deliver_102 v0 v3 t = some out → W p l e R s m args below meth c H locs 0 0 (MQ below (ob_Qi b D cA out) args s 0 0 (ob_A b)) (F0 m 102 ls []) := by
  have hx := Cx.1.1
  have hb := Cx.1.2.1
  intro t H locs ls v0 v3 hP hS hl h
  unfold B_Ob_deliver_102 at h
  refine lv_iload_n hx hb d_Ob_deliver_102 rfl (lv_at hl 1 rfl) ?_
  refine lv_if_eq (tgt := 117) hx hb d_Ob_deliver_103 (by decide) (fun hq => ?_) (fun hq => ?_)
  · rw [if_pos hq] at h
    exact tB_Ob_deliver_117 Cx t H locs ls v0 hP hS (lv_sub hl [0] rfl) h
  · rw [if_neg hq] at h
    refine lv_aload_n hx hb d_Ob_deliver_106 rfl (lv_at hl 0 rfl) ?_
    refine ob_getR (k := 2) Cx hP ck_10 rfl w_f_Ob_28 d_Ob_deliver_107 h (fun n107 h => ?_)
    refine lv_aload_n hx hb d_Ob_deliver_110 rfl (lv_at hl 0 rfl) ?_
    refine ob_getR (k := 3) Cx hP ck_10 rfl w_f_Ob_35 d_Ob_deliver_111 h (fun n111 h => ?_)
    refine ob_cVv (nA := 1) (As := [.ref (b + n111)]) (rest := []) Cx hl.1 hP hS (fun o ho => c_Se_receiveReceipt n107 n111 ho) (fun o ho => g_Se_receiveReceipt n107 n111 ho) (by decide) (rfl : ob_cl[9]? = _) mv_Se_receiveReceipt w_m_Ob_126 rfl (by decide +kernel) ⟨rfl, rfl⟩ ⟨by decide, by decide⟩ (Nat.le_of_ble_eq_true rfl) rfl d_Ob_deliver_114 h (fun t114 H locs h hP hS => ?_)
    exact tB_Ob_deliver_117 Cx t114 H locs ls v0 hP hS (lv_sub hl [0] rfl) h
set_option maxHeartbeats 4000000 in
set_option maxRecDepth 100000 in
theorem tB_Ob_deliver_70 {p : Program} {l : Launch} {e : Env} {R : Room} {s : State} {m : MethodId} {args : Array Value} {below : List Frame} {meth : Method} {c : Code} {b : Nat} {D : va_G} {cA : Nat → ClassId} {adK adV : Nat → Nat} {out : (Int32 × ob_S)} (Cx : ob_C p R s m args meth c cb_Ob_deliver 4 "ObservedBlocks" (some .int) b D cA adK adV 8 178) : ∀ (t : ob_S) (H : Heap) (locs : List Loc) (ls : Array Slot) (v0 : Nat) (v3 : Int32), ob_H b D cA t H → va_S (ob_A b) s.heap H locs → lv_has ls 4 [(0, .ref (b + v0)), (3, .int v3)] → B_Ob_deliver_70 v0 v3 t = some out → W p l e R s m args below meth c H locs 0 0 (MQ below (ob_Qi b D cA out) args s 0 0 (ob_A b)) (F0 m 70 ls []) := by
  have hx := Cx.1.1
  have hb := Cx.1.2.1
  intro t H locs ls v0 v3 hP hS hl h
  unfold B_Ob_deliver_70 at h
  refine lv_iload_n hx hb d_Ob_deliver_70 rfl (lv_at hl 1 rfl) ?_
  refine lv_if_eq (tgt := 102) hx hb d_Ob_deliver_71 (by decide) (fun hq => ?_) (fun hq => ?_)
  · rw [if_pos hq] at h
    exact tB_Ob_deliver_102 Cx t H locs ls v0 v3 hP hS (lv_sub hl [0, 1] rfl) h
  · rw [if_neg hq] at h
    refine lv_aload_n hx hb d_Ob_deliver_74 rfl (lv_at hl 0 rfl) ?_
    refine ob_getR (k := 3) Cx hP ck_10 rfl w_f_Ob_35 d_Ob_deliver_75 h (fun n75 h => ?_)
    refine ob_cVi (nA := 0) (As := []) (rest := []) Cx hl.1 hP hS (fun o ho => c_Ms_isRequest n75 ho) (fun o ho => g_Ms_isRequest n75 ho) (by decide) (rfl : ob_cl[8]? = _) mv_Ms_isRequest w_m_Ob_118 rfl (by decide +kernel) ⟨rfl, rfl⟩ ⟨by decide, by decide⟩ (Nat.le_of_ble_eq_true rfl) rfl d_Ob_deliver_78 h (fun x78 t78 H locs h hP hS => ?_)
    refine lv_if_eq (tgt := 102) hx hb d_Ob_deliver_81 (by decide) (fun hq => ?_) (fun hq => ?_)
    · rw [if_pos hq] at h
      exact tB_Ob_deliver_102 Cx t78 H locs ls v0 v3 hP hS (lv_sub hl [0, 1] rfl) h
    · rw [if_neg hq] at h
      refine lv_aload_n hx hb d_Ob_deliver_84 rfl (lv_at hl 0 rfl) ?_
      refine ob_getR (k := 2) Cx hP ck_10 rfl w_f_Ob_28 d_Ob_deliver_85 h (fun n85 h => ?_)
      refine lv_aload_n hx hb d_Ob_deliver_88 rfl (lv_at hl 0 rfl) ?_
      refine ob_getR (k := 3) Cx hP ck_10 rfl w_f_Ob_35 d_Ob_deliver_89 h (fun n89 h => ?_)
      refine lv_aload_n hx hb d_Ob_deliver_92 rfl (lv_at hl 0 rfl) ?_
      refine ob_getI (k := 4) Cx hP ck_10 rfl w_f_Ob_39 d_Ob_deliver_93 h (fun x93 h => ?_)
      refine ob_cVv (nA := 2) (As := [.ref (b + n89), .int x93]) (rest := []) Cx hl.1 hP hS (fun o ho => c_Se_answer n85 n89 x93 ho) (fun o ho => g_Se_answer n85 n89 x93 ho) (by decide) (rfl : ob_cl[9]? = _) mv_Se_answer w_m_Ob_122 rfl (by decide +kernel) ⟨rfl, rfl⟩ ⟨by decide, by decide⟩ (Nat.le_of_ble_eq_true rfl) rfl d_Ob_deliver_96 h (fun t96 H locs h hP hS => ?_)
      refine lv_goto (tgt := 117) hx hb d_Ob_deliver_99 (by decide) ?_
      exact tB_Ob_deliver_117 Cx t96 H locs ls v0 hP hS (lv_sub hl [0] rfl) h
theorem g_Ob_deliver (v0 : Nat) (v1 : Int32) {t : ob_S} {out : (Int32 × ob_S)} (h : X_Ob_deliver v0 v1 t = some out) : v0 < ob_n t ∧ ob_k t v0 = 10 := by
  unfold X_Ob_deliver ob_this at h
  by_cases q : v0 < ob_n t ∧ ob_k t v0 = 10
  · exact q
  · rw [if_neg q] at h
    cases h
set_option maxHeartbeats 4000000 in
set_option maxRecDepth 100000 in
theorem c_Ob_deliver {l : Launch} {b : Nat} {D : va_G} {cA : Nat → ClassId} {adK adV : Nat → Nat} (v0 : Nat) (v1 : Int32) {t : ob_S} {out : (Int32 × ob_S)} (h : X_Ob_deliver v0 v1 t = some out) : Met l y_Ob_deliver (Cond.code y_Ob_deliver cb_Ob_deliver 4 (some .int) :: ob_T) { frames := 8, cells := 0, slots := 0, locals := 178 } (ob_Pre b D cA adK adV [.ref (b + v0), .int v1] t) (ob_Qi b D cA out) 0 0 (ob_A b) := by
  refine ob_met (by decide) (Nat.le_of_ble_eq_true rfl) ?_
  intro p e R s m args below meth c ls Cx hP hS hl
  have hl : lv_has ls 4 [(0, .ref (b + v0)), (1, .int v1)] := hl
  have hx := Cx.1.1
  have hb := Cx.1.2.1
  have hg := g_Ob_deliver v0 v1 h
  unfold X_Ob_deliver ob_this at h
  rw [if_pos hg] at h
  obtain ⟨H, hH⟩ : ∃ H, H = s.heap := ⟨_, rfl⟩
  obtain ⟨locs, hL⟩ : ∃ locs : List Loc, locs = [] := ⟨_, rfl⟩
  rw [← hH] at hP
  have hS : va_S (ob_A b) s.heap H locs := by rw [hH, hL]; exact hS
  suffices hW : W p l e R s m args below meth c H locs 0 0 (MQ below (ob_Qi b D cA out) args s 0 0 (ob_A b)) (F0 m 0 ls []) by rw [hH, hL] at hW; exact hW
  refine lv_aload_n hx hb d_Ob_deliver_0 rfl (lv_at hl 0 rfl) ?_
  refine ob_getR (k := 0) Cx hP ck_10 rfl w_f_Ob_10 d_Ob_deliver_1 h (fun n1 h => ?_)
  refine lv_iload_n hx hb d_Ob_deliver_4 rfl (lv_at hl 1 rfl) ?_
  refine ob_cVi (nA := 1) (As := [.int v1]) (rest := []) Cx hl.1 hP hS (fun o ho => c_Li_has n1 v1 ho) (fun o ho => g_Li_has n1 v1 ho) (by decide) (rfl : ob_cl[1]? = _) mv_Li_has w_m_Ob_96 rfl (by decide +kernel) ⟨rfl, rfl⟩ ⟨by decide, by decide⟩ (Nat.le_of_ble_eq_true rfl) rfl d_Ob_deliver_5 h (fun x5 t5 H locs h hP hS => ?_)
  refine lv_if_ne (tgt := 13) hx hb d_Ob_deliver_8 (by decide) (fun hq => ?_) (fun hq => ?_)
  · rw [if_pos hq] at h
    refine lv_aload_n hx hb d_Ob_deliver_13 rfl (lv_at hl 0 rfl) ?_
    refine ob_getR (k := 0) Cx hP ck_10 rfl w_f_Ob_10 d_Ob_deliver_14 h (fun n14 h => ?_)
    refine ob_getR (k := 1) Cx hP ck_1 rfl w_f_Ob_100 d_Ob_deliver_17 h (fun n17 h => ?_)
    refine lv_iload_n hx hb d_Ob_deliver_20 rfl (lv_at hl 1 rfl) ?_
    refine ob_aldI Cx hP d_Ob_deliver_21 h (fun x21 h => ?_)
    refine lv_istore_n (lv' := [(2, .int x21), (0, .ref (b + v0)), (1, .int v1)]) hx hb d_Ob_deliver_22 rfl hl (by decide) rfl (fun ls hl => ?_)
    refine lv_aload_n hx hb d_Ob_deliver_23 rfl (lv_at hl 1 rfl) ?_
    refine ob_getR (k := 3) Cx hP ck_10 rfl w_f_Ob_35 d_Ob_deliver_24 h (fun n24 h => ?_)
    refine lv_aload_n hx hb d_Ob_deliver_27 rfl (lv_at hl 1 rfl) ?_
    refine ob_getR (k := 0) Cx hP ck_10 rfl w_f_Ob_10 d_Ob_deliver_28 h (fun n28 h => ?_)
    refine ob_getR (k := 0) Cx hP ck_1 rfl w_f_Ob_104 d_Ob_deliver_31 h (fun n31 h => ?_)
    refine lv_iload_n hx hb d_Ob_deliver_34 rfl (lv_at hl 2 rfl) ?_
    refine ob_aldR (kd := 14) Cx hP (by decide) rfl d_Ob_deliver_35 h (fun n35 h => ?_)
    refine ob_cVi (nA := 1) (As := [.ref (b + n35)]) (rest := []) Cx hl.1 hP hS (fun o ho => c_Ms_read n24 n35 ho) (fun o ho => g_Ms_read n24 n35 ho) (by decide) (rfl : ob_cl[8]? = _) mv_Ms_read w_m_Ob_107 rfl (by decide +kernel) ⟨rfl, rfl⟩ ⟨by decide, by decide⟩ (Nat.le_of_ble_eq_true rfl) rfl d_Ob_deliver_36 h (fun x36 t36 H locs h hP hS => ?_)
    refine lv_istore_n (lv' := [(3, .int x36), (2, .int x21), (0, .ref (b + v0)), (1, .int v1)]) hx hb d_Ob_deliver_39 rfl hl (by decide) rfl (fun ls hl => ?_)
    refine lv_aload_n hx hb d_Ob_deliver_40 rfl (lv_at hl 2 rfl) ?_
    refine ob_getR (k := 0) Cx hP ck_10 rfl w_f_Ob_10 d_Ob_deliver_41 h (fun n41 h => ?_)
    refine lv_iload_n hx hb d_Ob_deliver_44 rfl (lv_at hl 3 rfl) ?_
    refine ob_cVv (nA := 1) (As := [.int v1]) (rest := []) Cx hl.1 hP hS (fun o ho => c_Li_takeOut n41 v1 ho) (fun o ho => g_Li_takeOut n41 v1 ho) (by decide) (rfl : ob_cl[1]? = _) mv_Li_takeOut w_m_Ob_111 rfl (by decide +kernel) ⟨rfl, rfl⟩ ⟨by decide, by decide⟩ (Nat.le_of_ble_eq_true rfl) rfl d_Ob_deliver_45 h (fun t45 H locs h hP hS => ?_)
    refine lv_iload_n hx hb d_Ob_deliver_48 rfl (lv_at hl 0 rfl) ?_
    refine lv_if_eq (tgt := 70) hx hb d_Ob_deliver_49 (by decide) (fun hq => ?_) (fun hq => ?_)
    · rw [if_pos hq] at h
      exact tB_Ob_deliver_70 Cx t45 H locs ls v0 x36 hP hS (lv_sub hl [2, 0] rfl) h
    · rw [if_neg hq] at h
      refine lv_iload_n hx hb d_Ob_deliver_52 rfl (lv_at hl 1 rfl) ?_
      refine lv_if_ne (tgt := 70) hx hb d_Ob_deliver_53 (by decide) (fun hq => ?_) (fun hq => ?_)
      · rw [if_pos hq] at h
        exact tB_Ob_deliver_70 Cx t45 H locs ls v0 x36 hP hS (lv_sub hl [2, 0] rfl) h
      · rw [if_neg (fun z => z hq)] at h
        refine lv_aload_n hx hb d_Ob_deliver_56 rfl (lv_at hl 2 rfl) ?_
        refine ob_getR (k := 1) Cx hP ck_10 rfl w_f_Ob_21 d_Ob_deliver_57 h (fun n57 h => ?_)
        refine lv_aload_n hx hb d_Ob_deliver_60 rfl (lv_at hl 2 rfl) ?_
        refine ob_getR (k := 3) Cx hP ck_10 rfl w_f_Ob_35 d_Ob_deliver_61 h (fun n61 h => ?_)
        refine ob_cVv (nA := 1) (As := [.ref (b + n61)]) (rest := []) Cx hl.1 hP hS (fun o ho => c_Cl_receive n57 n61 ho) (fun o ho => g_Cl_receive n57 n61 ho) (by decide) (rfl : ob_cl[7]? = _) mv_Cl_receive w_m_Ob_114 rfl (by decide +kernel) ⟨rfl, rfl⟩ ⟨by decide, by decide⟩ (Nat.le_of_ble_eq_true rfl) rfl d_Ob_deliver_64 h (fun t64 H locs h hP hS => ?_)
        refine lv_goto (tgt := 117) hx hb d_Ob_deliver_67 (by decide) ?_
        exact tB_Ob_deliver_117 Cx t64 H locs ls v0 hP hS (lv_sub hl [2] rfl) h
  · rw [if_neg (fun z => z hq)] at h
    refine lv_iconst (v := -1) hx hb d_Ob_deliver_11 (by decide) ?_
    exact ob_iret Cx hP hS d_Ob_deliver_12 h
theorem g_Ob_lose (v0 : Nat) (v1 : Int32) {t : ob_S} {out : (Int32 × ob_S)} (h : X_Ob_lose v0 v1 t = some out) : v0 < ob_n t ∧ ob_k t v0 = 10 := by
  unfold X_Ob_lose ob_this at h
  by_cases q : v0 < ob_n t ∧ ob_k t v0 = 10
  · exact q
  · rw [if_neg q] at h
    cases h
set_option maxHeartbeats 4000000 in
set_option maxRecDepth 100000 in
theorem c_Ob_lose {l : Launch} {b : Nat} {D : va_G} {cA : Nat → ClassId} {adK adV : Nat → Nat} (v0 : Nat) (v1 : Int32) {t : ob_S} {out : (Int32 × ob_S)} (h : X_Ob_lose v0 v1 t = some out) : Met l y_Ob_lose (Cond.code y_Ob_lose cb_Ob_lose 2 (some .int) :: ob_T) { frames := 2, cells := 0, slots := 0, locals := 44 } (ob_Pre b D cA adK adV [.ref (b + v0), .int v1] t) (ob_Qi b D cA out) 0 0 (ob_A b) := by
  refine ob_met (by decide) (Nat.le_of_ble_eq_true rfl) ?_
  intro p e R s m args below meth c ls Cx hP hS hl
  have hl : lv_has ls 2 [(0, .ref (b + v0)), (1, .int v1)] := hl
  have hx := Cx.1.1
  have hb := Cx.1.2.1
  have hg := g_Ob_lose v0 v1 h
  unfold X_Ob_lose ob_this at h
  rw [if_pos hg] at h
  obtain ⟨H, hH⟩ : ∃ H, H = s.heap := ⟨_, rfl⟩
  obtain ⟨locs, hL⟩ : ∃ locs : List Loc, locs = [] := ⟨_, rfl⟩
  rw [← hH] at hP
  have hS : va_S (ob_A b) s.heap H locs := by rw [hH, hL]; exact hS
  suffices hW : W p l e R s m args below meth c H locs 0 0 (MQ below (ob_Qi b D cA out) args s 0 0 (ob_A b)) (F0 m 0 ls []) by rw [hH, hL] at hW; exact hW
  refine lv_aload_n hx hb d_Ob_lose_0 rfl (lv_at hl 0 rfl) ?_
  refine ob_getR (k := 0) Cx hP ck_10 rfl w_f_Ob_10 d_Ob_lose_1 h (fun n1 h => ?_)
  refine lv_iload_n hx hb d_Ob_lose_4 rfl (lv_at hl 1 rfl) ?_
  refine ob_cVi (nA := 1) (As := [.int v1]) (rest := []) Cx hl.1 hP hS (fun o ho => c_Li_has n1 v1 ho) (fun o ho => g_Li_has n1 v1 ho) (by decide) (rfl : ob_cl[1]? = _) mv_Li_has w_m_Ob_96 rfl (by decide +kernel) ⟨rfl, rfl⟩ ⟨by decide, by decide⟩ (Nat.le_of_ble_eq_true rfl) rfl d_Ob_lose_5 h (fun x5 t5 H locs h hP hS => ?_)
  refine lv_if_ne (tgt := 13) hx hb d_Ob_lose_8 (by decide) (fun hq => ?_) (fun hq => ?_)
  · rw [if_pos hq] at h
    refine lv_aload_n hx hb d_Ob_lose_13 rfl (lv_at hl 0 rfl) ?_
    refine ob_getR (k := 0) Cx hP ck_10 rfl w_f_Ob_10 d_Ob_lose_14 h (fun n14 h => ?_)
    refine lv_iload_n hx hb d_Ob_lose_17 rfl (lv_at hl 1 rfl) ?_
    refine ob_cVv (nA := 1) (As := [.int v1]) (rest := []) Cx hl.1 hP hS (fun o ho => c_Li_takeOut n14 v1 ho) (fun o ho => g_Li_takeOut n14 v1 ho) (by decide) (rfl : ob_cl[1]? = _) mv_Li_takeOut w_m_Ob_111 rfl (by decide +kernel) ⟨rfl, rfl⟩ ⟨by decide, by decide⟩ (Nat.le_of_ble_eq_true rfl) rfl d_Ob_lose_18 h (fun t18 H locs h hP hS => ?_)
    refine lv_aload_n hx hb d_Ob_lose_21 rfl (lv_at hl 0 rfl) ?_
    refine ob_getR (k := 0) Cx hP ck_10 rfl w_f_Ob_10 d_Ob_lose_22 h (fun n22 h => ?_)
    refine ob_getI (k := 2) Cx hP ck_1 rfl w_f_Ob_129 d_Ob_lose_25 h (fun x25 h => ?_)
    exact ob_iret Cx hP hS d_Ob_lose_28 h
  · rw [if_neg (fun z => z hq)] at h
    refine lv_iconst (v := -1) hx hb d_Ob_lose_11 (by decide) ?_
    exact ob_iret Cx hP hS d_Ob_lose_12 h
theorem g_Ob_repeat (v0 : Nat) (v1 : Int32) {t : ob_S} {out : (Int32 × ob_S)} (h : X_Ob_repeat v0 v1 t = some out) : v0 < ob_n t ∧ ob_k t v0 = 10 := by
  unfold X_Ob_repeat ob_this at h
  by_cases q : v0 < ob_n t ∧ ob_k t v0 = 10
  · exact q
  · rw [if_neg q] at h
    cases h
set_option maxHeartbeats 4000000 in
set_option maxRecDepth 100000 in
theorem c_Ob_repeat {l : Launch} {b : Nat} {D : va_G} {cA : Nat → ClassId} {adK adV : Nat → Nat} (v0 : Nat) (v1 : Int32) {t : ob_S} {out : (Int32 × ob_S)} (h : X_Ob_repeat v0 v1 t = some out) : Met l y_Ob_repeat (Cond.code y_Ob_repeat cb_Ob_repeat 2 (some .int) :: ob_T) { frames := 3, cells := 0, slots := 0, locals := 71 } (ob_Pre b D cA adK adV [.ref (b + v0), .int v1] t) (ob_Qi b D cA out) 0 0 (ob_A b) := by
  refine ob_met (by decide) (Nat.le_of_ble_eq_true rfl) ?_
  intro p e R s m args below meth c ls Cx hP hS hl
  have hl : lv_has ls 2 [(0, .ref (b + v0)), (1, .int v1)] := hl
  have hx := Cx.1.1
  have hb := Cx.1.2.1
  have hg := g_Ob_repeat v0 v1 h
  unfold X_Ob_repeat ob_this at h
  rw [if_pos hg] at h
  obtain ⟨H, hH⟩ : ∃ H, H = s.heap := ⟨_, rfl⟩
  obtain ⟨locs, hL⟩ : ∃ locs : List Loc, locs = [] := ⟨_, rfl⟩
  rw [← hH] at hP
  have hS : va_S (ob_A b) s.heap H locs := by rw [hH, hL]; exact hS
  suffices hW : W p l e R s m args below meth c H locs 0 0 (MQ below (ob_Qi b D cA out) args s 0 0 (ob_A b)) (F0 m 0 ls []) by rw [hH, hL] at hW; exact hW
  refine lv_aload_n hx hb d_Ob_repeat_0 rfl (lv_at hl 0 rfl) ?_
  refine ob_getR (k := 0) Cx hP ck_10 rfl w_f_Ob_10 d_Ob_repeat_1 h (fun n1 h => ?_)
  refine lv_iload_n hx hb d_Ob_repeat_4 rfl (lv_at hl 1 rfl) ?_
  refine ob_cVi (nA := 1) (As := [.int v1]) (rest := []) Cx hl.1 hP hS (fun o ho => c_Li_has n1 v1 ho) (fun o ho => g_Li_has n1 v1 ho) (by decide) (rfl : ob_cl[1]? = _) mv_Li_has w_m_Ob_96 rfl (by decide +kernel) ⟨rfl, rfl⟩ ⟨by decide, by decide⟩ (Nat.le_of_ble_eq_true rfl) rfl d_Ob_repeat_5 h (fun x5 t5 H locs h hP hS => ?_)
  refine lv_if_ne (tgt := 13) hx hb d_Ob_repeat_8 (by decide) (fun hq => ?_) (fun hq => ?_)
  · rw [if_pos hq] at h
    refine lv_aload_n hx hb d_Ob_repeat_13 rfl (lv_at hl 0 rfl) ?_
    refine ob_getR (k := 0) Cx hP ck_10 rfl w_f_Ob_10 d_Ob_repeat_14 h (fun n14 h => ?_)
    refine lv_aload_n hx hb d_Ob_repeat_17 rfl (lv_at hl 0 rfl) ?_
    refine ob_getR (k := 0) Cx hP ck_10 rfl w_f_Ob_10 d_Ob_repeat_18 h (fun n18 h => ?_)
    refine ob_getR (k := 0) Cx hP ck_1 rfl w_f_Ob_104 d_Ob_repeat_21 h (fun n21 h => ?_)
    refine lv_iload_n hx hb d_Ob_repeat_24 rfl (lv_at hl 1 rfl) ?_
    refine ob_aldR (kd := 14) Cx hP (by decide) rfl d_Ob_repeat_25 h (fun n25 h => ?_)
    refine lv_aload_n hx hb d_Ob_repeat_26 rfl (lv_at hl 0 rfl) ?_
    refine ob_getR (k := 0) Cx hP ck_10 rfl w_f_Ob_10 d_Ob_repeat_27 h (fun n27 h => ?_)
    refine ob_getR (k := 1) Cx hP ck_1 rfl w_f_Ob_100 d_Ob_repeat_30 h (fun n30 h => ?_)
    refine lv_iload_n hx hb d_Ob_repeat_33 rfl (lv_at hl 1 rfl) ?_
    refine ob_aldI Cx hP d_Ob_repeat_34 h (fun x34 h => ?_)
    refine ob_cVv (nA := 2) (As := [.ref (b + n25), .int x34]) (rest := []) Cx hl.1 hP hS (fun o ho => c_Li_send n14 n25 x34 ho) (fun o ho => g_Li_send n14 n25 x34 ho) (by decide) (rfl : ob_cl[1]? = _) mv_Li_send w_m_Ob_132 rfl (by decide +kernel) ⟨rfl, rfl⟩ ⟨by decide, by decide⟩ (Nat.le_of_ble_eq_true rfl) rfl d_Ob_repeat_35 h (fun t35 H locs h hP hS => ?_)
    refine lv_aload_n hx hb d_Ob_repeat_38 rfl (lv_at hl 0 rfl) ?_
    refine ob_getR (k := 0) Cx hP ck_10 rfl w_f_Ob_10 d_Ob_repeat_39 h (fun n39 h => ?_)
    refine ob_getI (k := 2) Cx hP ck_1 rfl w_f_Ob_129 d_Ob_repeat_42 h (fun x42 h => ?_)
    exact ob_iret Cx hP hS d_Ob_repeat_45 h
  · rw [if_neg (fun z => z hq)] at h
    refine lv_iconst (v := -1) hx hb d_Ob_repeat_11 (by decide) ?_
    exact ob_iret Cx hP hS d_Ob_repeat_12 h
set_option maxHeartbeats 4000000 in
set_option maxRecDepth 100000 in
theorem tB_Ob_spoil_37 {p : Program} {l : Launch} {e : Env} {R : Room} {s : State} {m : MethodId} {args : Array Value} {below : List Frame} {meth : Method} {c : Code} {b : Nat} {D : va_G} {cA : Nat → ClassId} {adK adV : Nat → Nat} {out : (Int32 × ob_S)} (Cx : ob_C p R s m args meth c cb_Ob_spoil 4 "ObservedBlocks" (some .boolean) b D cA adK adV 1 21) : ∀ (t : ob_S) (H : Heap) (locs : List Loc) (ls : Array Slot), ob_H b D cA t H → va_S (ob_A b) s.heap H locs → lv_has ls 4 [] → B_Ob_spoil_37 t = some out → W p l e R s m args below meth c H locs 0 0 (MQ below (ob_Qi b D cA out) args s 0 0 (ob_A b)) (F0 m 37 ls []) := by
  have hx := Cx.1.1
  have hb := Cx.1.2.1
  intro t H locs ls  hP hS hl h
  unfold B_Ob_spoil_37 at h
  refine lv_iconst (v := 0) hx hb d_Ob_spoil_37 (by decide) ?_
  exact ob_zret Cx hP hS d_Ob_spoil_38 h
theorem g_Ob_spoil (v0 : Nat) (v1 : Int32) (v2 : Int32) (v3 : Int32) {t : ob_S} {out : (Int32 × ob_S)} (h : X_Ob_spoil v0 v1 v2 v3 t = some out) : v0 < ob_n t ∧ ob_k t v0 = 10 := by
  unfold X_Ob_spoil ob_this at h
  by_cases q : v0 < ob_n t ∧ ob_k t v0 = 10
  · exact q
  · rw [if_neg q] at h
    cases h
set_option maxHeartbeats 4000000 in
set_option maxRecDepth 100000 in
theorem c_Ob_spoil {l : Launch} {b : Nat} {D : va_G} {cA : Nat → ClassId} {adK adV : Nat → Nat} (v0 : Nat) (v1 : Int32) (v2 : Int32) (v3 : Int32) {t : ob_S} {out : (Int32 × ob_S)} (h : X_Ob_spoil v0 v1 v2 v3 t = some out) : Met l y_Ob_spoil (Cond.code y_Ob_spoil cb_Ob_spoil 4 (some .boolean) :: ob_T) { frames := 1, cells := 0, slots := 0, locals := 21 } (ob_Pre b D cA adK adV [.ref (b + v0), .int v1, .int v2, .int v3] t) (ob_Qi b D cA out) 0 0 (ob_A b) := by
  refine ob_met (by decide) (Nat.le_of_ble_eq_true rfl) ?_
  intro p e R s m args below meth c ls Cx hP hS hl
  have hl : lv_has ls 4 [(0, .ref (b + v0)), (1, .int v1), (2, .int v2), (3, .int v3)] := hl
  have hx := Cx.1.1
  have hb := Cx.1.2.1
  have hg := g_Ob_spoil v0 v1 v2 v3 h
  unfold X_Ob_spoil ob_this at h
  rw [if_pos hg] at h
  obtain ⟨H, hH⟩ : ∃ H, H = s.heap := ⟨_, rfl⟩
  obtain ⟨locs, hL⟩ : ∃ locs : List Loc, locs = [] := ⟨_, rfl⟩
  rw [← hH] at hP
  have hS : va_S (ob_A b) s.heap H locs := by rw [hH, hL]; exact hS
  suffices hW : W p l e R s m args below meth c H locs 0 0 (MQ below (ob_Qi b D cA out) args s 0 0 (ob_A b)) (F0 m 0 ls []) by rw [hH, hL] at hW; exact hW
  refine lv_aload_n hx hb d_Ob_spoil_0 rfl (lv_at hl 0 rfl) ?_
  refine ob_getR (k := 0) Cx hP ck_10 rfl w_f_Ob_10 d_Ob_spoil_1 h (fun n1 h => ?_)
  refine lv_iload_n hx hb d_Ob_spoil_4 rfl (lv_at hl 1 rfl) ?_
  refine ob_cVi (nA := 1) (As := [.int v1]) (rest := []) Cx hl.1 hP hS (fun o ho => c_Li_has n1 v1 ho) (fun o ho => g_Li_has n1 v1 ho) (by decide) (rfl : ob_cl[1]? = _) mv_Li_has w_m_Ob_96 rfl (by decide +kernel) ⟨rfl, rfl⟩ ⟨by decide, by decide⟩ (Nat.le_of_ble_eq_true rfl) rfl d_Ob_spoil_5 h (fun x5 t5 H locs h hP hS => ?_)
  refine lv_if_eq (tgt := 37) hx hb d_Ob_spoil_8 (by decide) (fun hq => ?_) (fun hq => ?_)
  · rw [if_pos hq] at h
    exact tB_Ob_spoil_37 Cx t5 H locs ls hP hS (lv_sub hl [] rfl) h
  · rw [if_neg hq] at h
    refine lv_aload_n hx hb d_Ob_spoil_11 rfl (lv_at hl 0 rfl) ?_
    refine ob_getR (k := 0) Cx hP ck_10 rfl w_f_Ob_10 d_Ob_spoil_12 h (fun n12 h => ?_)
    refine ob_getR (k := 0) Cx hP ck_1 rfl w_f_Ob_104 d_Ob_spoil_15 h (fun n15 h => ?_)
    refine lv_iload_n hx hb d_Ob_spoil_18 rfl (lv_at hl 1 rfl) ?_
    refine ob_aldR (kd := 14) Cx hP (by decide) rfl d_Ob_spoil_19 h (fun n19 h => ?_)
    refine lv_iload_n hx hb d_Ob_spoil_20 rfl (lv_at hl 2 rfl) ?_
    refine ob_cVi (nA := 1) (As := [.int v2]) (rest := []) Cx hl.1 hP hS (fun o ho => c_By_has n19 v2 ho) (fun o ho => g_By_has n19 v2 ho) (by decide) (rfl : ob_cl[0]? = _) mv_By_has w_m_Ob_136 rfl (by decide +kernel) ⟨rfl, rfl⟩ ⟨by decide, by decide⟩ (Nat.le_of_ble_eq_true rfl) rfl d_Ob_spoil_21 h (fun x21 t21 H locs h hP hS => ?_)
    refine lv_if_eq (tgt := 37) hx hb d_Ob_spoil_24 (by decide) (fun hq => ?_) (fun hq => ?_)
    · rw [if_pos hq] at h
      exact tB_Ob_spoil_37 Cx t21 H locs ls hP hS (lv_sub hl [] rfl) h
    · rw [if_neg hq] at h
      refine lv_iload_n hx hb d_Ob_spoil_27 rfl (lv_at hl 3 rfl) ?_
      refine lv_sipush (v := 255) hx hb d_Ob_spoil_28 (by decide) ?_
      refine ob_cSi (nA := 2) (As := [.int v3, .int (255 : Int32)]) (rest := []) Cx hl.1 hP hS (fun o ho => c_Ob_isWithin v3 (255 : Int32) ho) ms_Ob_isWithin w_m_Ob_67 rfl (by decide +kernel) ⟨rfl, rfl⟩ ⟨by decide, by decide⟩ (Nat.le_of_ble_eq_true rfl) rfl d_Ob_spoil_31 h (fun x31 t31 H locs h hP hS => ?_)
      refine lv_if_ne (tgt := 39) hx hb d_Ob_spoil_34 (by decide) (fun hq => ?_) (fun hq => ?_)
      · rw [if_pos hq] at h
        refine lv_aload_n hx hb d_Ob_spoil_39 rfl (lv_at hl 0 rfl) ?_
        refine ob_getR (k := 0) Cx hP ck_10 rfl w_f_Ob_10 d_Ob_spoil_40 h (fun n40 h => ?_)
        refine ob_getR (k := 0) Cx hP ck_1 rfl w_f_Ob_104 d_Ob_spoil_43 h (fun n43 h => ?_)
        refine lv_iload_n hx hb d_Ob_spoil_46 rfl (lv_at hl 1 rfl) ?_
        refine ob_aldR (kd := 14) Cx hP (by decide) rfl d_Ob_spoil_47 h (fun n47 h => ?_)
        refine ob_getR (k := 0) Cx hP ck_0 rfl w_f_Ob_137 d_Ob_spoil_48 h (fun n48 h => ?_)
        refine lv_iload_n hx hb d_Ob_spoil_51 rfl (lv_at hl 2 rfl) ?_
        refine lv_dup2_11 hx hb d_Ob_spoil_52 rfl rfl ?_
        refine ob_aldI Cx hP d_Ob_spoil_53 h (fun x53 h => ?_)
        refine lv_iload_n hx hb d_Ob_spoil_54 rfl (lv_at hl 3 rfl) ?_
        refine lv_ixor hx hb d_Ob_spoil_55 ?_
        refine ob_astI Cx hP hS d_Ob_spoil_56 h (fun t56 H locs h hP hS => ?_)
        refine lv_iconst (v := 1) hx hb d_Ob_spoil_57 (by decide) ?_
        exact ob_zret Cx hP hS d_Ob_spoil_58 h
      · rw [if_neg (fun z => z hq)] at h
        exact tB_Ob_spoil_37 Cx t31 H locs ls hP hS (lv_sub hl [] rfl) h

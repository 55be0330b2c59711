theorem g_Cl_receive (v0 : Nat) (v1 : Nat) {t : ob_S} {out : ob_S} (h : X_Cl_receive v0 v1 t = some out) : v0 < ob_n t ∧ ob_k t v0 = 7 := by
  unfold X_Cl_receive ob_this at h
  by_cases q : v0 < ob_n t ∧ ob_k t v0 = 7
  · exact q
  · rw [if_neg q] at h
    cases h
set_option maxHeartbeats 4000000 in
set_option maxRecDepth 100000 in
theorem c_Cl_receive {l : Launch} {b : Nat} {D : va_G} {cA : Nat → ClassId} {adK adV : Nat → Nat} (v0 : Nat) (v1 : Nat) {t : ob_S} {out : ob_S} (h : X_Cl_receive v0 v1 t = some out) : Met l y_Cl_receive (Cond.code y_Cl_receive cb_Cl_receive 2 none :: ob_T) { frames := 7, cells := 0, slots := 0, locals := 153 } (ob_Pre b D cA adK adV [.ref (b + v0), .ref (b + v1)] t) (ob_Qv b D cA out) 0 0 (ob_A b) := by
  refine ob_met (by decide) (Nat.le_of_ble_eq_true rfl) ?_
  intro p e R s m args below meth c ls Cx hP hS hl
  have hl : lv_has ls 2 [(0, .ref (b + v0)), (1, .ref (b + v1))] := hl
  have hx := Cx.1.1
  have hb := Cx.1.2.1
  have hg := g_Cl_receive v0 v1 h
  unfold X_Cl_receive ob_this at h
  rw [if_pos hg] at h
  obtain ⟨H, hH⟩ : ∃ H, H = s.heap := ⟨_, rfl⟩
  obtain ⟨locs, hL⟩ : ∃ locs : List Loc, locs = [] := ⟨_, rfl⟩
  rw [← hH] at hP
  have hS : va_S (ob_A b) s.heap H locs := by rw [hH, hL]; exact hS
  suffices hW : W p l e R s m args below meth c H locs 0 0 (MQ below (ob_Qv b D cA out) args s 0 0 (ob_A b)) (F0 m 0 ls []) by rw [hH, hL] at hW; exact hW
  refine lv_aload_n hx hb d_Cl_receive_0 rfl (lv_at hl 1 rfl) ?_
  refine ob_getI (k := 0) Cx hP ck_8 rfl w_f_Cl_123 d_Cl_receive_1 h (fun x1 h => ?_)
  refine lv_iconst (v := 2) hx hb d_Cl_receive_4 (by decide) ?_
  refine lv_icmp_ne (tgt := 16) hx hb d_Cl_receive_5 (by decide) (fun hq => ?_) (fun hq => ?_)
  · rw [if_pos hq] at h
    refine lv_aload_n hx hb d_Cl_receive_16 rfl (lv_at hl 1 rfl) ?_
    refine ob_getI (k := 0) Cx hP ck_8 rfl w_f_Cl_123 d_Cl_receive_17 h (fun x17 h => ?_)
    refine lv_if_ne (tgt := 37) hx hb d_Cl_receive_20 (by decide) (fun hq => ?_) (fun hq => ?_)
    · rw [if_pos hq] at h
      exact ob_vret Cx hP hS d_Cl_receive_37 h
    · rw [if_neg (fun z => z hq)] at h
      refine lv_aload_n hx hb d_Cl_receive_23 rfl (lv_at hl 1 rfl) ?_
      refine ob_getI (k := 1) Cx hP ck_8 rfl w_f_Cl_132 d_Cl_receive_24 h (fun x24 h => ?_)
      refine lv_bipush (v := 69) hx hb d_Cl_receive_27 (by decide) ?_
      refine lv_icmp_ne (tgt := 37) hx hb d_Cl_receive_29 (by decide) (fun hq => ?_) (fun hq => ?_)
      · rw [if_pos hq] at h
        exact ob_vret Cx hP hS d_Cl_receive_37 h
      · rw [if_neg (fun z => z hq)] at h
        refine lv_aload_n hx hb d_Cl_receive_32 rfl (lv_at hl 0 rfl) ?_
        refine lv_aload_n hx hb d_Cl_receive_33 rfl (lv_at hl 1 rfl) ?_
        refine ob_cVv (nA := 1) (As := [.ref (b + v1)]) (rest := []) Cx hl.1 hP hS (fun o ho => c_Cl_receiveNews v0 v1 ho) (fun o ho => g_Cl_receiveNews v0 v1 ho) (by decide) (rfl : ob_cl[7]? = _) mv_Cl_receiveNews w_m_Cl_135 rfl (by decide +kernel) ⟨rfl, rfl⟩ ⟨by decide, by decide⟩ (Nat.le_of_ble_eq_true rfl) rfl d_Cl_receive_34 h (fun t34 H locs h hP hS => ?_)
        exact ob_vret Cx hP hS d_Cl_receive_37 h
  · rw [if_neg (fun z => z hq)] at h
    refine lv_aload_n hx hb d_Cl_receive_8 rfl (lv_at hl 0 rfl) ?_
    refine lv_aload_n hx hb d_Cl_receive_9 rfl (lv_at hl 1 rfl) ?_
    refine ob_cVv (nA := 1) (As := [.ref (b + v1)]) (rest := []) Cx hl.1 hP hS (fun o ho => c_Cl_receiveAnswer v0 v1 ho) (fun o ho => g_Cl_receiveAnswer v0 v1 ho) (by decide) (rfl : ob_cl[7]? = _) mv_Cl_receiveAnswer w_m_Cl_128 rfl (by decide +kernel) ⟨rfl, rfl⟩ ⟨by decide, by decide⟩ (Nat.le_of_ble_eq_true rfl) rfl d_Cl_receive_10 h (fun t10 H locs h hP hS => ?_)
    refine lv_goto (tgt := 37) hx hb d_Cl_receive_13 (by decide) ?_
    exact ob_vret Cx hP hS d_Cl_receive_37 h
set_option maxHeartbeats 4000000 in
set_option maxRecDepth 100000 in
theorem tB_Ms_isRequest_23 {p : Program} {l : Launch} {e : Env} {R : Room} {s : State} {m : MethodId} {args : Array Value} {below : List Frame} {meth : Method} {c : Code} {b : Nat} {D : va_G} {cA : Nat → ClassId} {adK adV : Nat → Nat} {out : (Int32 × ob_S)} (Cx : ob_C p R s m args meth c cb_Ms_isRequest 1 "ObservedBlocks$Message" (some .boolean) b D cA adK adV 0 0) : ∀ (t : ob_S) (H : Heap) (locs : List Loc) (ls : Array Slot), ob_H b D cA t H → va_S (ob_A b) s.heap H locs → lv_has ls 1 [] → B_Ms_isRequest_23 t = some out → W p l e R s m args below meth c H locs 0 0 (MQ below (ob_Qi b D cA out) args s 0 0 (ob_A b)) (F0 m 23 ls []) := by
  have hx := Cx.1.1
  have hb := Cx.1.2.1
  intro t H locs ls  hP hS hl h
  unfold B_Ms_isRequest_23 at h
  refine lv_iconst (v := 1) hx hb d_Ms_isRequest_23 (by decide) ?_
  refine lv_goto (tgt := 28) hx hb d_Ms_isRequest_24 (by decide) ?_
  exact ob_zret Cx hP hS d_Ms_isRequest_28 h
set_option maxHeartbeats 4000000 in
set_option maxRecDepth 100000 in
theorem tB_Ms_isRequest_27 {p : Program} {l : Launch} {e : Env} {R : Room} {s : State} {m : MethodId} {args : Array Value} {below : List Frame} {meth : Method} {c : Code} {b : Nat} {D : va_G} {cA : Nat → ClassId} {adK adV : Nat → Nat} {out : (Int32 × ob_S)} (Cx : ob_C p R s m args meth c cb_Ms_isRequest 1 "ObservedBlocks$Message" (some .boolean) b D cA adK adV 0 0) : ∀ (t : ob_S) (H : Heap) (locs : List Loc) (ls : Array Slot), ob_H b D cA t H → va_S (ob_A b) s.heap H locs → lv_has ls 1 [] → B_Ms_isRequest_27 t = some out → W p l e R s m args below meth c H locs 0 0 (MQ below (ob_Qi b D cA out) args s 0 0 (ob_A b)) (F0 m 27 ls []) := by
  have hx := Cx.1.1
  have hb := Cx.1.2.1
  intro t H locs ls  hP hS hl h
  unfold B_Ms_isRequest_27 at h
  refine lv_iconst (v := 0) hx hb d_Ms_isRequest_27 (by decide) ?_
  exact ob_zret Cx hP hS d_Ms_isRequest_28 h
theorem g_Ms_isRequest (v0 : Nat) {t : ob_S} {out : (Int32 × ob_S)} (h : X_Ms_isRequest v0 t = some out) : v0 < ob_n t ∧ ob_k t v0 = 8 := by
  unfold X_Ms_isRequest ob_this at h
  by_cases q : v0 < ob_n t ∧ ob_k t v0 = 8
  · exact q
  · rw [if_neg q] at h
    cases h
set_option maxHeartbeats 4000000 in
set_option maxRecDepth 100000 in
theorem c_Ms_isRequest {l : Launch} {b : Nat} {D : va_G} {cA : Nat → ClassId} {adK adV : Nat → Nat} (v0 : Nat) {t : ob_S} {out : (Int32 × ob_S)} (h : X_Ms_isRequest v0 t = some out) : Met l y_Ms_isRequest (Cond.code y_Ms_isRequest cb_Ms_isRequest 1 (some .boolean) :: ob_T) { frames := 0, cells := 0, slots := 0, locals := 0 } (ob_Pre b D cA adK adV [.ref (b + v0)] t) (ob_Qi b D cA out) 0 0 (ob_A b) := by
  refine ob_met (by decide) (Nat.le_of_ble_eq_true rfl) ?_
  intro p e R s m args below meth c ls Cx hP hS hl
  have hl : lv_has ls 1 [(0, .ref (b + v0))] := hl
  have hx := Cx.1.1
  have hb := Cx.1.2.1
  have hg := g_Ms_isRequest v0 h
  unfold X_Ms_isRequest ob_this at h
  rw [if_pos hg] at h
  obtain ⟨H, hH⟩ : ∃ H, H = s.heap := ⟨_, rfl⟩
  obtain ⟨locs, hL⟩ : ∃ locs : List Loc, locs = [] := ⟨_, rfl⟩
  rw [← hH] at hP
  have hS : va_S (ob_A b) s.heap H locs := by rw [hH, hL]; exact hS
  suffices hW : W p l e R s m args below meth c H locs 0 0 (MQ below (ob_Qi b D cA out) args s 0 0 (ob_A b)) (F0 m 0 ls []) by rw [hH, hL] at hW; exact hW
  refine lv_aload_n hx hb d_Ms_isRequest_0 rfl (lv_at hl 0 rfl) ?_
  refine ob_getI (k := 0) Cx hP ck_8 rfl w_f_Ms_26 d_Ms_isRequest_1 h (fun x1 h => ?_)
  refine lv_if_ne (tgt := 27) hx hb d_Ms_isRequest_4 (by decide) (fun hq => ?_) (fun hq => ?_)
  · rw [if_pos hq] at h
    exact tB_Ms_isRequest_27 Cx t H locs ls hP hS (lv_sub hl [] rfl) h
  · rw [if_neg (fun z => z hq)] at h
    refine lv_aload_n hx hb d_Ms_isRequest_7 rfl (lv_at hl 0 rfl) ?_
    refine ob_getI (k := 1) Cx hP ck_8 rfl w_f_Ms_30 d_Ms_isRequest_8 h (fun x8 h => ?_)
    refine lv_iconst (v := 1) hx hb d_Ms_isRequest_11 (by decide) ?_
    refine lv_icmp_eq (tgt := 23) hx hb d_Ms_isRequest_12 (by decide) (fun hq => ?_) (fun hq => ?_)
    · rw [if_pos hq] at h
      exact tB_Ms_isRequest_23 Cx t H locs ls hP hS (lv_sub hl [] rfl) h
    · rw [if_neg hq] at h
      refine lv_aload_n hx hb d_Ms_isRequest_15 rfl (lv_at hl 0 rfl) ?_
      refine ob_getI (k := 1) Cx hP ck_8 rfl w_f_Ms_30 d_Ms_isRequest_16 h (fun x16 h => ?_)
      refine lv_iconst (v := 3) hx hb d_Ms_isRequest_19 (by decide) ?_
      refine lv_icmp_ne (tgt := 27) hx hb d_Ms_isRequest_20 (by decide) (fun hq => ?_) (fun hq => ?_)
      · rw [if_pos hq] at h
        exact tB_Ms_isRequest_27 Cx t H locs ls hP hS (lv_sub hl [] rfl) h
      · rw [if_neg (fun z => z hq)] at h
        exact tB_Ms_isRequest_23 Cx t H locs ls hP hS (lv_sub hl [] rfl) h
set_option maxHeartbeats 4000000 in
set_option maxRecDepth 100000 in
theorem tB_Me_placeOf_2 {p : Program} {l : Launch} {e : Env} {R : Room} {s : State} {m : MethodId} {args : Array Value} {below : List Frame} {meth : Method} {c : Code} {b : Nat} {D : va_G} {cA : Nat → ClassId} {adK adV : Nat → Nat} {out : (Int32 × ob_S)} (Cx : ob_C p R s m args meth c cb_Me_placeOf 3 "ObservedBlocks$Memory" (some .int) b D cA adK adV 0 0) : ∀ (fu : Nat), ∀ (t : ob_S) (H : Heap) (locs : List Loc) (ls : Array Slot) (v0 : Nat) (v1 : Int32) (v2 : Int32), ob_H b D cA t H → va_S (ob_A b) s.heap H locs → lv_has ls 3 [(0, .ref (b + v0)), (1, .int v1), (2, .int v2)] → B_Me_placeOf_2 fu v0 v1 v2 t = some out → W p l e R s m args below meth c H locs 0 0 (MQ below (ob_Qi b D cA out) args s 0 0 (ob_A b)) (F0 m 2 ls []) := by
  have hx := Cx.1.1
  have hb := Cx.1.2.1
  intro fu
  induction fu with
  | zero =>
    intro t H locs ls v0 v1 v2 hP hS hl h
    cases h
  | succ fu ih =>
    intro t H locs ls v0 v1 v2 hP hS hl h
    rw [B_Me_placeOf_2] at h
    refine lv_iload_n hx hb d_Me_placeOf_2 rfl (lv_at hl 2 rfl) ?_
    refine lv_aload_n hx hb d_Me_placeOf_3 rfl (lv_at hl 0 rfl) ?_
    refine ob_getI (k := 3) Cx hP ck_2 rfl w_f_Me_27 d_Me_placeOf_4 h (fun x4 h => ?_)
    refine lv_icmp_ge (tgt := 28) hx hb d_Me_placeOf_7 (by decide) (fun hq => ?_) (fun hq => ?_)
    · rw [if_pos hq] at h
      refine lv_iconst (v := -1) hx hb d_Me_placeOf_28 (by decide) ?_
      exact ob_iret Cx hP hS d_Me_placeOf_29 h
    · rw [if_neg hq] at h
      refine lv_aload_n hx hb d_Me_placeOf_10 rfl (lv_at hl 0 rfl) ?_
      refine ob_getR (k := 1) Cx hP ck_2 rfl w_f_Me_17 d_Me_placeOf_11 h (fun n11 h => ?_)
      refine lv_iload_n hx hb d_Me_placeOf_14 rfl (lv_at hl 2 rfl) ?_
      refine ob_aldI Cx hP d_Me_placeOf_15 h (fun x15 h => ?_)
      refine lv_iload_n hx hb d_Me_placeOf_16 rfl (lv_at hl 1 rfl) ?_
      refine lv_icmp_ne (tgt := 22) hx hb d_Me_placeOf_17 (by decide) (fun hq => ?_) (fun hq => ?_)
      · rw [if_pos hq] at h
        refine lv_iinc (v := (v2 + (1 : Int32))) (lv' := [(2, .int (v2 + (1 : Int32))), (0, .ref (b + v0)), (1, .int v1)]) hx hb d_Me_placeOf_22 hl (k := 2) rfl rfl (by decide) rfl (fun ls hl => ?_)
        refine lv_goto (tgt := 2) hx hb d_Me_placeOf_25 (by decide) ?_
        exact ih t H locs ls v0 v1 (v2 + (1 : Int32)) hP hS (lv_sub hl [1, 2, 0] rfl) h
      · rw [if_neg (fun z => z hq)] at h
        refine lv_iload_n hx hb d_Me_placeOf_20 rfl (lv_at hl 2 rfl) ?_
        exact ob_iret Cx hP hS d_Me_placeOf_21 h
theorem g_Me_placeOf (v0 : Nat) (v1 : Int32) {t : ob_S} {out : (Int32 × ob_S)} (h : X_Me_placeOf v0 v1 t = some out) : v0 < ob_n t ∧ ob_k t v0 = 2 := by
  unfold X_Me_placeOf ob_this at h
  by_cases q : v0 < ob_n t ∧ ob_k t v0 = 2
  · exact q
  · rw [if_neg q] at h
    cases h
set_option maxHeartbeats 4000000 in
set_option maxRecDepth 100000 in
theorem c_Me_placeOf {l : Launch} {b : Nat} {D : va_G} {cA : Nat → ClassId} {adK adV : Nat → Nat} (v0 : Nat) (v1 : Int32) {t : ob_S} {out : (Int32 × ob_S)} (h : X_Me_placeOf v0 v1 t = some out) : Met l y_Me_placeOf (Cond.code y_Me_placeOf cb_Me_placeOf 3 (some .int) :: ob_T) { frames := 0, cells := 0, slots := 0, locals := 0 } (ob_Pre b D cA adK adV [.ref (b + v0), .int v1] t) (ob_Qi b D cA out) 0 0 (ob_A b) := by
  refine ob_met (by decide) (Nat.le_of_ble_eq_true rfl) ?_
  intro p e R s m args below meth c ls Cx hP hS hl
  have hl : lv_has ls 3 [(0, .ref (b + v0)), (1, .int v1)] := hl
  have hx := Cx.1.1
  have hb := Cx.1.2.1
  have hg := g_Me_placeOf v0 v1 h
  unfold X_Me_placeOf ob_this at h
  rw [if_pos hg] at h
  obtain ⟨H, hH⟩ : ∃ H, H = s.heap := ⟨_, rfl⟩
  obtain ⟨locs, hL⟩ : ∃ locs : List Loc, locs = [] := ⟨_, rfl⟩
  rw [← hH] at hP
  have hS : va_S (ob_A b) s.heap H locs := by rw [hH, hL]; exact hS
  suffices hW : W p l e R s m args below meth c H locs 0 0 (MQ below (ob_Qi b D cA out) args s 0 0 (ob_A b)) (F0 m 0 ls []) by rw [hH, hL] at hW; exact hW
  refine lv_iconst (v := 0) hx hb d_Me_placeOf_0 (by decide) ?_
  refine lv_istore_n (lv' := [(2, .int (0 : Int32)), (0, .ref (b + v0)), (1, .int v1)]) hx hb d_Me_placeOf_1 rfl hl (by decide) rfl (fun ls hl => ?_)
  exact tB_Me_placeOf_2 Cx ob_fu t H locs ls v0 v1 (0 : Int32) hP hS (lv_sub hl [1, 2, 0] rfl) h
set_option maxHeartbeats 4000000 in
set_option maxRecDepth 100000 in
theorem tB_Me_find_28 {p : Program} {l : Launch} {e : Env} {R : Room} {s : State} {m : MethodId} {args : Array Value} {below : List Frame} {meth : Method} {c : Code} {b : Nat} {D : va_G} {cA : Nat → ClassId} {adK adV : Nat → Nat} {out : (Int32 × ob_S)} (Cx : ob_C p R s m args meth c cb_Me_find 4 "ObservedBlocks$Memory" (some .int) b D cA adK adV 1 22) : ∀ (t : ob_S) (H : Heap) (locs : List Loc) (ls : Array Slot), ob_H b D cA t H → va_S (ob_A b) s.heap H locs → lv_has ls 4 [] → B_Me_find_28 t = some out → W p l e R s m args below meth c H locs 0 0 (MQ below (ob_Qi b D cA out) args s 0 0 (ob_A b)) (F0 m 28 ls []) := by
  have hx := Cx.1.1
  have hb := Cx.1.2.1
  intro t H locs ls  hP hS hl h
  unfold B_Me_find_28 at h
  refine lv_iconst (v := -1) hx hb d_Me_find_28 (by decide) ?_
  exact ob_iret Cx hP hS d_Me_find_29 h
theorem g_Me_find (v0 : Nat) (v1 : Int32) (v2 : Int32) {t : ob_S} {out : (Int32 × ob_S)} (h : X_Me_find v0 v1 v2 t = some out) : v0 < ob_n t ∧ ob_k t v0 = 2 := by
  unfold X_Me_find ob_this at h
  by_cases q : v0 < ob_n t ∧ ob_k t v0 = 2
  · exact q
  · rw [if_neg q] at h
    cases h
set_option maxHeartbeats 4000000 in
set_option maxRecDepth 100000 in
theorem c_Me_find {l : Launch} {b : Nat} {D : va_G} {cA : Nat → ClassId} {adK adV : Nat → Nat} (v0 : Nat) (v1 : Int32) (v2 : Int32) {t : ob_S} {out : (Int32 × ob_S)} (h : X_Me_find v0 v1 v2 t = some out) : Met l y_Me_find (Cond.code y_Me_find cb_Me_find 4 (some .int) :: ob_T) { frames := 1, cells := 0, slots := 0, locals := 22 } (ob_Pre b D cA adK adV [.ref (b + v0), .int v1, .int v2] t) (ob_Qi b D cA out) 0 0 (ob_A b) := by
  refine ob_met (by decide) (Nat.le_of_ble_eq_true rfl) ?_
  intro p e R s m args below meth c ls Cx hP hS hl
  have hl : lv_has ls 4 [(0, .ref (b + v0)), (1, .int v1), (2, .int v2)] := hl
  have hx := Cx.1.1
  have hb := Cx.1.2.1
  have hg := g_Me_find v0 v1 v2 h
  unfold X_Me_find ob_this at h
  rw [if_pos hg] at h
  obtain ⟨H, hH⟩ : ∃ H, H = s.heap := ⟨_, rfl⟩
  obtain ⟨locs, hL⟩ : ∃ locs : List Loc, locs = [] := ⟨_, rfl⟩
  rw [← hH] at hP
  have hS : va_S (ob_A b) s.heap H locs := by rw [hH, hL]; exact hS
  suffices hW : W p l e R s m args below meth c H locs 0 0 (MQ below (ob_Qi b D cA out) args s 0 0 (ob_A b)) (F0 m 0 ls []) by rw [hH, hL] at hW; exact hW
  refine lv_aload_n hx hb d_Me_find_0 rfl (lv_at hl 0 rfl) ?_
  refine lv_iload_n hx hb d_Me_find_1 rfl (lv_at hl 1 rfl) ?_
  refine ob_cVi (nA := 1) (As := [.int v1]) (rest := []) Cx hl.1 hP hS (fun o ho => c_Me_placeOf v0 v1 ho) (fun o ho => g_Me_placeOf v0 v1 ho) (by decide) (rfl : ob_cl[2]? = _) mv_Me_placeOf w_m_Me_31 rfl (by decide +kernel) ⟨rfl, rfl⟩ ⟨by decide, by decide⟩ (Nat.le_of_ble_eq_true rfl) rfl d_Me_find_2 h (fun x2 t2 H locs h hP hS => ?_)
  refine lv_istore_n (lv' := [(3, .int x2), (0, .ref (b + v0)), (1, .int v1), (2, .int v2)]) hx hb d_Me_find_5 rfl hl (by decide) rfl (fun ls hl => ?_)
  refine lv_iload_n hx hb d_Me_find_6 rfl (lv_at hl 0 rfl) ?_
  refine lv_iconst (v := -1) hx hb d_Me_find_7 (by decide) ?_
  refine lv_icmp_eq (tgt := 28) hx hb d_Me_find_8 (by decide) (fun hq => ?_) (fun hq => ?_)
  · rw [if_pos hq] at h
    exact tB_Me_find_28 Cx t2 H locs ls hP hS (lv_sub hl [] rfl) h
  · rw [if_neg hq] at h
    refine lv_iload_n hx hb d_Me_find_11 rfl (lv_at hl 3 rfl) ?_
    refine lv_aload_n hx hb d_Me_find_12 rfl (lv_at hl 1 rfl) ?_
    refine ob_getR (k := 2) Cx hP ck_2 rfl w_f_Me_21 d_Me_find_13 h (fun n13 h => ?_)
    refine lv_iload_n hx hb d_Me_find_16 rfl (lv_at hl 0 rfl) ?_
    refine ob_aldI Cx hP d_Me_find_17 h (fun x17 h => ?_)
    refine lv_isub hx hb d_Me_find_18 ?_
    refine lv_bipush (v := 100) hx hb d_Me_find_19 (by decide) ?_
    refine lv_icmp_ge (tgt := 28) hx hb d_Me_find_21 (by decide) (fun hq => ?_) (fun hq => ?_)
    · rw [if_pos hq] at h
      exact tB_Me_find_28 Cx t2 H locs ls hP hS (lv_sub hl [] rfl) h
    · rw [if_neg hq] at h
      refine lv_iload_n hx hb d_Me_find_24 rfl (lv_at hl 0 rfl) ?_
      refine lv_goto (tgt := 29) hx hb d_Me_find_25 (by decide) ?_
      exact ob_iret Cx hP hS d_Me_find_29 h
set_option maxHeartbeats 4000000 in
set_option maxRecDepth 100000 in
theorem tB_By_spells_50 {p : Program} {l : Launch} {e : Env} {R : Room} {s : State} {m : MethodId} {args : Array Value} {below : List Frame} {meth : Method} {c : Code} {b : Nat} {D : va_G} {cA : Nat → ClassId} {adK adV : Nat → Nat} {out : (Int32 × ob_S)} (Cx : ob_C p R s m args meth c cb_By_spells 4 "ObservedBlocks$Bytes" (some .boolean) b D cA adK adV 4 85) {k19 : Nat → Nat → Int32 → Int32 → ob_S → Option (Int32 × ob_S)} (hk19 : ∀ (t : ob_S) (H : Heap) (locs : List Loc) (ls : Array Slot) (v0 : Nat) (v1 : Nat) (v2 : Int32) (v3 : Int32), ob_H b D cA t H → va_S (ob_A b) s.heap H locs → lv_has ls 4 [(0, .ref (b + v0)), (1, .ref (adK v1)), (2, .int v2), (3, .int v3)] → k19 v0 v1 v2 v3 t = some out → W p l e R s m args below meth c H locs 0 0 (MQ below (ob_Qi b D cA out) args s 0 0 (ob_A b)) (F0 m 19 ls [])) : ∀ (t : ob_S) (H : Heap) (locs : List Loc) (ls : Array Slot) (v0 : Nat) (v1 : Nat) (v3 : Int32) (s0 : Int32), ob_H b D cA t H → va_S (ob_A b) s.heap H locs → lv_has ls 4 [(0, .ref (b + v0)), (1, .ref (adK v1)), (3, .int v3)] → B_By_spells_50 k19 v0 v1 v3 s0 t = some out → W p l e R s m args below meth c H locs 0 0 (MQ below (ob_Qi b D cA out) args s 0 0 (ob_A b)) (F0 m 50 ls [.int s0]) := by
  have hx := Cx.1.1
  have hb := Cx.1.2.1
  intro t H locs ls v0 v1 v3 s0 hP hS hl h
  unfold B_By_spells_50 at h
  refine lv_istore_n (lv' := [(2, .int s0), (0, .ref (b + v0)), (1, .ref (adK v1)), (3, .int v3)]) hx hb d_By_spells_50 rfl hl (by decide) rfl (fun ls hl => ?_)
  refine lv_iinc (v := (v3 + (1 : Int32))) (lv' := [(3, .int (v3 + (1 : Int32))), (2, .int s0), (0, .ref (b + v0)), (1, .ref (adK v1))]) hx hb d_By_spells_51 hl (k := 3) rfl rfl (by decide) rfl (fun ls hl => ?_)
  refine lv_goto (tgt := 19) hx hb d_By_spells_54 (by decide) ?_
  exact hk19 t H locs ls v0 v1 s0 (v3 + (1 : Int32)) hP hS (lv_sub hl [2, 3, 1, 0] rfl) h
set_option maxHeartbeats 4000000 in
set_option maxRecDepth 100000 in
theorem tB_By_spells_57 {p : Program} {l : Launch} {e : Env} {R : Room} {s : State} {m : MethodId} {args : Array Value} {below : List Frame} {meth : Method} {c : Code} {b : Nat} {D : va_G} {cA : Nat → ClassId} {adK adV : Nat → Nat} {out : (Int32 × ob_S)} (Cx : ob_C p R s m args meth c cb_By_spells 4 "ObservedBlocks$Bytes" (some .boolean) b D cA adK adV 4 85) : ∀ (t : ob_S) (H : Heap) (locs : List Loc) (ls : Array Slot) (v2 : Int32), ob_H b D cA t H → va_S (ob_A b) s.heap H locs → lv_has ls 4 [(2, .int v2)] → B_By_spells_57 v2 t = some out → W p l e R s m args below meth c H locs 0 0 (MQ below (ob_Qi b D cA out) args s 0 0 (ob_A b)) (F0 m 57 ls []) := by
  have hx := Cx.1.1
  have hb := Cx.1.2.1
  intro t H locs ls v2 hP hS hl h
  unfold B_By_spells_57 at h
  refine lv_iload_n hx hb d_By_spells_57 rfl (lv_at hl 0 rfl) ?_
  exact ob_zret Cx hP hS d_By_spells_58 h
set_option maxHeartbeats 4000000 in
set_option maxRecDepth 100000 in
theorem tB_By_spells_19 {p : Program} {l : Launch} {e : Env} {R : Room} {s : State} {m : MethodId} {args : Array Value} {below : List Frame} {meth : Method} {c : Code} {b : Nat} {D : va_G} {cA : Nat → ClassId} {adK adV : Nat → Nat} {out : (Int32 × ob_S)} (Cx : ob_C p R s m args meth c cb_By_spells 4 "ObservedBlocks$Bytes" (some .boolean) b D cA adK adV 4 85) : ∀ (fu : Nat), ∀ (t : ob_S) (H : Heap) (locs : List Loc) (ls : Array Slot) (v0 : Nat) (v1 : Nat) (v2 : Int32) (v3 : Int32), ob_H b D cA t H → va_S (ob_A b) s.heap H locs → lv_has ls 4 [(0, .ref (b + v0)), (1, .ref (adK v1)), (2, .int v2), (3, .int v3)] → B_By_spells_19 fu v0 v1 v2 v3 t = some out → W p l e R s m args below meth c H locs 0 0 (MQ below (ob_Qi b D cA out) args s 0 0 (ob_A b)) (F0 m 19 ls []) := by
  have hx := Cx.1.1
  have hb := Cx.1.2.1
  intro fu
  induction fu with
  | zero =>
    intro t H locs ls v0 v1 v2 v3 hP hS hl h
    cases h
  | succ fu ih =>
    intro t H locs ls v0 v1 v2 v3 hP hS hl h
    rw [B_By_spells_19] at h
    refine lv_iload_n hx hb d_By_spells_19 rfl (lv_at hl 2 rfl) ?_
    refine lv_if_eq (tgt := 57) hx hb d_By_spells_20 (by decide) (fun hq => ?_) (fun hq => ?_)
    · rw [if_pos hq] at h
      exact tB_By_spells_57 Cx t H locs ls v2 hP hS (lv_sub hl [2] rfl) h
    · rw [if_neg hq] at h
      refine lv_iload_n hx hb d_By_spells_23 rfl (lv_at hl 3 rfl) ?_
      refine lv_aload_n hx hb d_By_spells_24 rfl (lv_at hl 0 rfl) ?_
      refine ob_getI (k := 1) Cx hP ck_0 rfl w_f_By_15 d_By_spells_25 h (fun x25 h => ?_)
      refine lv_icmp_ge (tgt := 57) hx hb d_By_spells_28 (by decide) (fun hq => ?_) (fun hq => ?_)
      · rw [if_pos hq] at h
        exact tB_By_spells_57 Cx t H locs ls v2 hP hS (lv_sub hl [2] rfl) h
      · rw [if_neg hq] at h
        refine lv_aload_n hx hb d_By_spells_31 rfl (lv_at hl 0 rfl) ?_
        refine ob_getR (k := 0) Cx hP ck_0 rfl w_f_By_9 d_By_spells_32 h (fun n32 h => ?_)
        refine lv_iload_n hx hb d_By_spells_35 rfl (lv_at hl 3 rfl) ?_
        refine ob_aldI Cx hP d_By_spells_36 h (fun x36 h => ?_)
        refine lv_aload_n hx hb d_By_spells_37 rfl (lv_at hl 1 rfl) ?_
        refine lv_iload_n hx hb d_By_spells_38 rfl (lv_at hl 3 rfl) ?_
        refine ob_cTi (nA := 1) (As := [.int v3]) (rest := [.int x36]) Cx hl.1 hP hS (fun o ho => c_Str_charAt v1 v3 ho) (fun o ho => g_Str_charAt v1 v3 ho) mv_Str_charAt w_m_By_47 rfl (by decide +kernel) ⟨rfl, rfl⟩ ⟨by decide, by decide⟩ (Nat.le_of_ble_eq_true rfl) rfl d_By_spells_39 h (fun x39 t39 H locs h hP hS => ?_)
        refine lv_icmp_ne (tgt := 49) hx hb d_By_spells_42 (by decide) (fun hq => ?_) (fun hq => ?_)
        · rw [if_pos hq] at h
          refine lv_iconst (v := 0) hx hb d_By_spells_49 (by decide) ?_
          exact tB_By_spells_50 Cx ih t39 H locs ls v0 v1 v3 (0 : Int32) hP hS (lv_sub hl [0, 1, 3] rfl) h
        · rw [if_neg (fun z => z hq)] at h
          refine lv_iconst (v := 1) hx hb d_By_spells_45 (by decide) ?_
          refine lv_goto (tgt := 50) hx hb d_By_spells_46 (by decide) ?_
          exact tB_By_spells_50 Cx ih t39 H locs ls v0 v1 v3 (1 : Int32) hP hS (lv_sub hl [0, 1, 3] rfl) h
set_option maxHeartbeats 4000000 in
set_option maxRecDepth 100000 in
theorem tB_By_spells_16 {p : Program} {l : Launch} {e : Env} {R : Room} {s : State} {m : MethodId} {args : Array Value} {below : List Frame} {meth : Method} {c : Code} {b : Nat} {D : va_G} {cA : Nat → ClassId} {adK adV : Nat → Nat} {out : (Int32 × ob_S)} (Cx : ob_C p R s m args meth c cb_By_spells 4 "ObservedBlocks$Bytes" (some .boolean) b D cA adK adV 4 85) : ∀ (t : ob_S) (H : Heap) (locs : List Loc) (ls : Array Slot) (v0 : Nat) (v1 : Nat) (s0 : Int32), ob_H b D cA t H → va_S (ob_A b) s.heap H locs → lv_has ls 4 [(0, .ref (b + v0)), (1, .ref (adK v1))] → B_By_spells_16 v0 v1 s0 t = some out → W p l e R s m args below meth c H locs 0 0 (MQ below (ob_Qi b D cA out) args s 0 0 (ob_A b)) (F0 m 16 ls [.int s0]) := by
  have hx := Cx.1.1
  have hb := Cx.1.2.1
  intro t H locs ls v0 v1 s0 hP hS hl h
  unfold B_By_spells_16 at h
  refine lv_istore_n (lv' := [(2, .int s0), (0, .ref (b + v0)), (1, .ref (adK v1))]) hx hb d_By_spells_16 rfl hl (by decide) rfl (fun ls hl => ?_)
  refine lv_iconst (v := 0) hx hb d_By_spells_17 (by decide) ?_
  refine lv_istore_n (lv' := [(3, .int (0 : Int32)), (2, .int s0), (0, .ref (b + v0)), (1, .ref (adK v1))]) hx hb d_By_spells_18 rfl hl (by decide) rfl (fun ls hl => ?_)
  exact tB_By_spells_19 Cx ob_fu t H locs ls v0 v1 s0 (0 : Int32) hP hS (lv_sub hl [2, 3, 1, 0] rfl) h
theorem g_By_spells (v0 : Nat) (v1 : Nat) {t : ob_S} {out : (Int32 × ob_S)} (h : X_By_spells v0 v1 t = some out) : v0 < ob_n t ∧ ob_k t v0 = 0 := by
  unfold X_By_spells ob_this at h
  by_cases q : v0 < ob_n t ∧ ob_k t v0 = 0
  · exact q
  · rw [if_neg q] at h
    cases h
set_option maxHeartbeats 4000000 in
set_option maxRecDepth 100000 in
theorem c_By_spells {l : Launch} {b : Nat} {D : va_G} {cA : Nat → ClassId} {adK adV : Nat → Nat} (v0 : Nat) (v1 : Nat) {t : ob_S} {out : (Int32 × ob_S)} (h : X_By_spells v0 v1 t = some out) : Met l y_By_spells (Cond.code y_By_spells cb_By_spells 4 (some .boolean) :: ob_T) { frames := 4, cells := 0, slots := 0, locals := 85 } (ob_Pre b D cA adK adV [.ref (b + v0), .ref (adK v1)] t) (ob_Qi b D cA out) 0 0 (ob_A b) := by
  refine ob_met (by decide) (Nat.le_of_ble_eq_true rfl) ?_
  intro p e R s m args below meth c ls Cx hP hS hl
  have hl : lv_has ls 4 [(0, .ref (b + v0)), (1, .ref (adK v1))] := hl
  have hx := Cx.1.1
  have hb := Cx.1.2.1
  have hg := g_By_spells v0 v1 h
  unfold X_By_spells ob_this at h
  rw [if_pos hg] at h
  obtain ⟨H, hH⟩ : ∃ H, H = s.heap := ⟨_, rfl⟩
  obtain ⟨locs, hL⟩ : ∃ locs : List Loc, locs = [] := ⟨_, rfl⟩
  rw [← hH] at hP
  have hS : va_S (ob_A b) s.heap H locs := by rw [hH, hL]; exact hS
  suffices hW : W p l e R s m args below meth c H locs 0 0 (MQ below (ob_Qi b D cA out) args s 0 0 (ob_A b)) (F0 m 0 ls []) by rw [hH, hL] at hW; exact hW
  refine lv_aload_n hx hb d_By_spells_0 rfl (lv_at hl 0 rfl) ?_
  refine ob_getI (k := 1) Cx hP ck_0 rfl w_f_By_15 d_By_spells_1 h (fun x1 h => ?_)
  refine lv_aload_n hx hb d_By_spells_4 rfl (lv_at hl 1 rfl) ?_
  refine ob_cTi (nA := 0) (As := []) (rest := [.int x1]) Cx hl.1 hP hS (fun o ho => c_Str_length v1 ho) (fun o ho => g_Str_length v1 ho) mv_Str_length w_m_By_42 rfl (by decide +kernel) ⟨rfl, rfl⟩ ⟨by decide, by decide⟩ (Nat.le_of_ble_eq_true rfl) rfl d_By_spells_5 h (fun x5 t5 H locs h hP hS => ?_)
  refine lv_icmp_ne (tgt := 15) hx hb d_By_spells_8 (by decide) (fun hq => ?_) (fun hq => ?_)
  · rw [if_pos hq] at h
    refine lv_iconst (v := 0) hx hb d_By_spells_15 (by decide) ?_
    exact tB_By_spells_16 Cx t5 H locs ls v0 v1 (0 : Int32) hP hS (lv_sub hl [0, 1] rfl) h
  · rw [if_neg (fun z => z hq)] at h
    refine lv_iconst (v := 1) hx hb d_By_spells_11 (by decide) ?_
    refine lv_goto (tgt := 16) hx hb d_By_spells_12 (by decide) ?_
    exact tB_By_spells_16 Cx t5 H locs ls v0 v1 (1 : Int32) hP hS (lv_sub hl [0, 1] rfl) h
set_option maxHeartbeats 4000000 in
set_option maxRecDepth 100000 in
theorem tB_Ms_isUnder_55 {p : Program} {l : Launch} {e : Env} {R : Room} {s : State} {m : MethodId} {args : Array Value} {below : List Frame} {meth : Method} {c : Code} {b : Nat} {D : va_G} {cA : Nat → ClassId} {adK adV : Nat → Nat} {out : (Int32 × ob_S)} (Cx : ob_C p R s m args meth c cb_Ms_isUnder 4 "ObservedBlocks$Message" (some .boolean) b D cA adK adV 5 108) : ∀ (t : ob_S) (H : Heap) (locs : List Loc) (ls : Array Slot), ob_H b D cA t H → va_S (ob_A b) s.heap H locs → lv_has ls 4 [] → B_Ms_isUnder_55 t = some out → W p l e R s m args below meth c H locs 0 0 (MQ below (ob_Qi b D cA out) args s 0 0 (ob_A b)) (F0 m 55 ls []) := by
  have hx := Cx.1.1
  have hb := Cx.1.2.1
  intro t H locs ls  hP hS hl h
  unfold B_Ms_isUnder_55 at h
  refine lv_iconst (v := 0) hx hb d_Ms_isUnder_55 (by decide) ?_
  exact ob_zret Cx hP hS d_Ms_isUnder_56 h
set_option maxHeartbeats 4000000 in
set_option maxRecDepth 100000 in
theorem tB_Ms_isUnder_17 {p : Program} {l : Launch} {e : Env} {R : Room} {s : State} {m : MethodId} {args : Array Value} {below : List Frame} {meth : Method} {c : Code} {b : Nat} {D : va_G} {cA : Nat → ClassId} {adK adV : Nat → Nat} {out : (Int32 × ob_S)} (Cx : ob_C p R s m args meth c cb_Ms_isUnder 4 "ObservedBlocks$Message" (some .boolean) b D cA adK adV 5 108) : ∀ (t : ob_S) (H : Heap) (locs : List Loc) (ls : Array Slot) (v0 : Nat) (v1 : Int32) (v2 : Nat) (s0 : Int32), ob_H b D cA t H → va_S (ob_A b) s.heap H locs → lv_has ls 4 [(0, .ref (b + v0)), (1, .int v1), (2, .ref (adK v2))] → B_Ms_isUnder_17 v0 v1 v2 s0 t = some out → W p l e R s m args below meth c H locs 0 0 (MQ below (ob_Qi b D cA out) args s 0 0 (ob_A b)) (F0 m 17 ls [.int s0]) := by
  have hx := Cx.1.1
  have hb := Cx.1.2.1
  intro t H locs ls v0 v1 v2 s0 hP hS hl h
  unfold B_Ms_isUnder_17 at h
  refine lv_istore_n (lv' := [(3, .int s0), (0, .ref (b + v0)), (1, .int v1), (2, .ref (adK v2))]) hx hb d_Ms_isUnder_17 rfl hl (by decide) rfl (fun ls hl => ?_)
  refine lv_aload_n hx hb d_Ms_isUnder_18 rfl (lv_at hl 1 rfl) ?_
  refine ob_getI (k := 7) Cx hP ck_8 rfl w_f_Ms_43 d_Ms_isUnder_19 h (fun x19 h => ?_)
  refine lv_iload_n hx hb d_Ms_isUnder_22 rfl (lv_at hl 0 rfl) ?_
  refine lv_icmp_ne (tgt := 55) hx hb d_Ms_isUnder_23 (by decide) (fun hq => ?_) (fun hq => ?_)
  · rw [if_pos hq] at h
    exact tB_Ms_isUnder_55 Cx t H locs ls hP hS (lv_sub hl [] rfl) h
  · rw [if_neg (fun z => z hq)] at h
    refine lv_aload_n hx hb d_Ms_isUnder_26 rfl (lv_at hl 1 rfl) ?_
    refine ob_getR (k := 8) Cx hP ck_8 rfl w_f_Ms_14 d_Ms_isUnder_27 h (fun n27 h => ?_)
    refine lv_iload_n hx hb d_Ms_isUnder_30 rfl (lv_at hl 2 rfl) ?_
    refine ob_cNs (nA := 1) (As := [.int v1]) (rest := [.ref (b + n27)]) Cx hl.1 hP hS (fun o ho => c_Ob_firstSegmentOf v1 ho) ms_Ob_firstSegmentOf w_n_Ms_46 rfl (by decide +kernel) ⟨rfl, rfl⟩ ⟨by decide, by decide⟩ (Nat.le_of_ble_eq_true rfl) rfl d_Ms_isUnder_31 h (fun n31 t31 H locs h hP hS => ?_)
    refine ob_cVi (nA := 1) (As := [.ref (adK n31)]) (rest := []) Cx hl.1 hP hS (fun o ho => c_By_spells n27 n31 ho) (fun o ho => g_By_spells n27 n31 ho) (by decide) (rfl : ob_cl[0]? = _) mv_By_spells w_m_Ms_49 rfl (by decide +kernel) ⟨rfl, rfl⟩ ⟨by decide, by decide⟩ (Nat.le_of_ble_eq_true rfl) rfl d_Ms_isUnder_34 h (fun x34 t34 H locs h hP hS => ?_)
    refine lv_if_eq (tgt := 55) hx hb d_Ms_isUnder_37 (by decide) (fun hq => ?_) (fun hq => ?_)
    · rw [if_pos hq] at h
      exact tB_Ms_isUnder_55 Cx t34 H locs ls hP hS (lv_sub hl [] rfl) h
    · rw [if_neg hq] at h
      refine lv_aload_n hx hb d_Ms_isUnder_40 rfl (lv_at hl 1 rfl) ?_
      refine ob_getR (k := 9) Cx hP ck_8 rfl w_f_Ms_20 d_Ms_isUnder_41 h (fun n41 h => ?_)
      refine lv_aload_n hx hb d_Ms_isUnder_44 rfl (lv_at hl 3 rfl) ?_
      refine ob_cVi (nA := 1) (As := [.ref (adK v2)]) (rest := []) Cx hl.1 hP hS (fun o ho => c_By_spells n41 v2 ho) (fun o ho => g_By_spells n41 v2 ho) (by decide) (rfl : ob_cl[0]? = _) mv_By_spells w_m_Ms_49 rfl (by decide +kernel) ⟨rfl, rfl⟩ ⟨by decide, by decide⟩ (Nat.le_of_ble_eq_true rfl) rfl d_Ms_isUnder_45 h (fun x45 t45 H locs h hP hS => ?_)
      refine lv_if_eq (tgt := 55) hx hb d_Ms_isUnder_48 (by decide) (fun hq => ?_) (fun hq => ?_)
      · rw [if_pos hq] at h
        exact tB_Ms_isUnder_55 Cx t45 H locs ls hP hS (lv_sub hl [] rfl) h
      · rw [if_neg hq] at h
        refine lv_iconst (v := 1) hx hb d_Ms_isUnder_51 (by decide) ?_
        refine lv_goto (tgt := 56) hx hb d_Ms_isUnder_52 (by decide) ?_
        exact ob_zret Cx hP hS d_Ms_isUnder_56 h
theorem g_Ms_isUnder (v0 : Nat) (v1 : Int32) {t : ob_S} {out : (Int32 × ob_S)} (h : X_Ms_isUnder v0 v1 t = some out) : v0 < ob_n t ∧ ob_k t v0 = 8 := by
  unfold X_Ms_isUnder ob_this at h
  by_cases q : v0 < ob_n t ∧ ob_k t v0 = 8
  · exact q
  · rw [if_neg q] at h
    cases h
set_option maxHeartbeats 4000000 in
set_option maxRecDepth 100000 in
theorem c_Ms_isUnder {l : Launch} {b : Nat} {D : va_G} {cA : Nat → ClassId} {adK adV : Nat → Nat} (v0 : Nat) (v1 : Int32) {t : ob_S} {out : (Int32 × ob_S)} (h : X_Ms_isUnder v0 v1 t = some out) : Met l y_Ms_isUnder (Cond.code y_Ms_isUnder cb_Ms_isUnder 4 (some .boolean) :: ob_T) { frames := 5, cells := 0, slots := 0, locals := 108 } (ob_Pre b D cA adK adV [.ref (b + v0), .int v1] t) (ob_Qi b D cA out) 0 0 (ob_A b) := by
  refine ob_met (by decide) (Nat.le_of_ble_eq_true rfl) ?_
  intro p e R s m args below meth c ls Cx hP hS hl
  have hl : lv_has ls 4 [(0, .ref (b + v0)), (1, .int v1)] := hl
  have hx := Cx.1.1
  have hb := Cx.1.2.1
  have hg := g_Ms_isUnder v0 v1 h
  unfold X_Ms_isUnder ob_this at h
  rw [if_pos hg] at h
  obtain ⟨H, hH⟩ : ∃ H, H = s.heap := ⟨_, rfl⟩
  obtain ⟨locs, hL⟩ : ∃ locs : List Loc, locs = [] := ⟨_, rfl⟩
  rw [← hH] at hP
  have hS : va_S (ob_A b) s.heap H locs := by rw [hH, hL]; exact hS
  suffices hW : W p l e R s m args below meth c H locs 0 0 (MQ below (ob_Qi b D cA out) args s 0 0 (ob_A b)) (F0 m 0 ls []) by rw [hH, hL] at hW; exact hW
  refine lv_iload_n hx hb d_Ms_isUnder_0 rfl (lv_at hl 1 rfl) ?_
  refine ob_cNs (nA := 1) (As := [.int v1]) (rest := []) Cx hl.1 hP hS (fun o ho => c_Ob_secondSegmentOf v1 ho) ms_Ob_secondSegmentOf w_n_Ms_33 rfl (by decide +kernel) ⟨rfl, rfl⟩ ⟨by decide, by decide⟩ (Nat.le_of_ble_eq_true rfl) rfl d_Ms_isUnder_1 h (fun n1 t1 H locs h hP hS => ?_)
  refine lv_astore_n (lv' := [(2, .ref (adK n1)), (0, .ref (b + v0)), (1, .int v1)]) hx hb d_Ms_isUnder_4 rfl hl (by decide) rfl (fun ls hl => ?_)
  refine lv_aload_n hx hb d_Ms_isUnder_5 rfl (lv_at hl 0 rfl) ?_
  refine ob_cTi (nA := 0) (As := []) (rest := []) Cx hl.1 hP hS (fun o ho => c_Str_isEmpty n1 ho) (fun o ho => g_Str_isEmpty n1 ho) mv_Str_isEmpty w_m_Ms_37 rfl (by decide +kernel) ⟨rfl, rfl⟩ ⟨by decide, by decide⟩ (Nat.le_of_ble_eq_true rfl) rfl d_Ms_isUnder_6 h (fun x6 t6 H locs h hP hS => ?_)
  refine lv_if_eq (tgt := 16) hx hb d_Ms_isUnder_9 (by decide) (fun hq => ?_) (fun hq => ?_)
  · rw [if_pos hq] at h
    refine lv_iconst (v := 2) hx hb d_Ms_isUnder_16 (by decide) ?_
    exact tB_Ms_isUnder_17 Cx t6 H locs ls v0 v1 n1 (2 : Int32) hP hS (lv_sub hl [1, 2, 0] rfl) h
  · rw [if_neg hq] at h
    refine lv_iconst (v := 1) hx hb d_Ms_isUnder_12 (by decide) ?_
    refine lv_goto (tgt := 17) hx hb d_Ms_isUnder_13 (by decide) ?_
    exact tB_Ms_isUnder_17 Cx t6 H locs ls v0 v1 n1 (1 : Int32) hP hS (lv_sub hl [1, 2, 0] rfl) h
set_option maxHeartbeats 4000000 in
set_option maxRecDepth 100000 in
theorem tB_Se_resourceUnder_2 {p : Program} {l : Launch} {e : Env} {R : Room} {s : State} {m : MethodId} {args : Array Value} {below : List Frame} {meth : Method} {c : Code} {b : Nat} {D : va_G} {cA : Nat → ClassId} {adK adV : Nat → Nat} {out : (Int32 × ob_S)} (Cx : ob_C p R s m args meth c cb_Se_resourceUnder 3 "ObservedBlocks$Server" (some .int) b D cA adK adV 6 131) : ∀ (fu : Nat), ∀ (t : ob_S) (H : Heap) (locs : List Loc) (ls : Array Slot) (v1 : Nat) (v2 : Int32), ob_H b D cA t H → va_S (ob_A b) s.heap H locs → lv_has ls 3 [(1, .ref (b + v1)), (2, .int v2)] → B_Se_resourceUnder_2 fu v1 v2 t = some out → W p l e R s m args below meth c H locs 0 0 (MQ below (ob_Qi b D cA out) args s 0 0 (ob_A b)) (F0 m 2 ls []) := by
  have hx := Cx.1.1
  have hb := Cx.1.2.1
  intro fu
  induction fu with
  | zero =>
    intro t H locs ls v1 v2 hP hS hl h
    cases h
  | succ fu ih =>
    intro t H locs ls v1 v2 hP hS hl h
    rw [B_Se_resourceUnder_2] at h
    refine lv_iload_n hx hb d_Se_resourceUnder_2 rfl (lv_at hl 1 rfl) ?_
    refine lv_iconst (v := 4) hx hb d_Se_resourceUnder_3 (by decide) ?_
    refine lv_icmp_ge (tgt := 23) hx hb d_Se_resourceUnder_4 (by decide) (fun hq => ?_) (fun hq => ?_)
    · rw [if_pos hq] at h
      refine lv_iconst (v := -1) hx hb d_Se_resourceUnder_23 (by decide) ?_
      exact ob_iret Cx hP hS d_Se_resourceUnder_24 h
    · rw [if_neg hq] at h
      refine lv_aload_n hx hb d_Se_resourceUnder_7 rfl (lv_at hl 0 rfl) ?_
      refine lv_iload_n hx hb d_Se_resourceUnder_8 rfl (lv_at hl 1 rfl) ?_
      refine ob_cVi (nA := 1) (As := [.int v2]) (rest := []) Cx hl.1 hP hS (fun o ho => c_Ms_isUnder v1 v2 ho) (fun o ho => g_Ms_isUnder v1 v2 ho) (by decide) (rfl : ob_cl[8]? = _) mv_Ms_isUnder w_m_Se_113 rfl (by decide +kernel) ⟨rfl, rfl⟩ ⟨by decide, by decide⟩ (Nat.le_of_ble_eq_true rfl) rfl d_Se_resourceUnder_9 h (fun x9 t9 H locs h hP hS => ?_)
      refine lv_if_eq (tgt := 17) hx hb d_Se_resourceUnder_12 (by decide) (fun hq => ?_) (fun hq => ?_)
      · rw [if_pos hq] at h
        refine lv_iinc (v := (v2 + (1 : Int32))) (lv' := [(2, .int (v2 + (1 : Int32))), (1, .ref (b + v1))]) hx hb d_Se_resourceUnder_17 hl (k := 1) rfl rfl (by decide) rfl (fun ls hl => ?_)
        refine lv_goto (tgt := 2) hx hb d_Se_resourceUnder_20 (by decide) ?_
        exact ih t9 H locs ls v1 (v2 + (1 : Int32)) hP hS (lv_sub hl [1, 0] rfl) h
      · rw [if_neg hq] at h
        refine lv_iload_n hx hb d_Se_resourceUnder_15 rfl (lv_at hl 1 rfl) ?_
        exact ob_iret Cx hP hS d_Se_resourceUnder_16 h
theorem g_Se_resourceUnder (v0 : Nat) (v1 : Nat) {t : ob_S} {out : (Int32 × ob_S)} (h : X_Se_resourceUnder v0 v1 t = some out) : v0 < ob_n t ∧ ob_k t v0 = 9 := by
  unfold X_Se_resourceUnder ob_this at h
  by_cases q : v0 < ob_n t ∧ ob_k t v0 = 9
  · exact q
  · rw [if_neg q] at h
    cases h
set_option maxHeartbeats 4000000 in
set_option maxRecDepth 100000 in
theorem c_Se_resourceUnder {l : Launch} {b : Nat} {D : va_G} {cA : Nat → ClassId} {adK adV : Nat → Nat} (v0 : Nat) (v1 : Nat) {t : ob_S} {out : (Int32 × ob_S)} (h : X_Se_resourceUnder v0 v1 t = some out) : Met l y_Se_resourceUnder (Cond.code y_Se_resourceUnder cb_Se_resourceUnder 3 (some .int) :: ob_T) { frames := 6, cells := 0, slots := 0, locals := 131 } (ob_Pre b D cA adK adV [.ref (b + v0), .ref (b + v1)] t) (ob_Qi b D cA out) 0 0 (ob_A b) := by
  refine ob_met (by decide) (Nat.le_of_ble_eq_true rfl) ?_
  intro p e R s m args below meth c ls Cx hP hS hl
  have hl : lv_has ls 3 [(0, .ref (b + v0)), (1, .ref (b + v1))] := hl
  have hx := Cx.1.1
  have hb := Cx.1.2.1
  have hg := g_Se_resourceUnder v0 v1 h
  unfold X_Se_resourceUnder ob_this at h
  rw [if_pos hg] at h
  obtain ⟨H, hH⟩ : ∃ H, H = s.heap := ⟨_, rfl⟩
  obtain ⟨locs, hL⟩ : ∃ locs : List Loc, locs = [] := ⟨_, rfl⟩
  rw [← hH] at hP
  have hS : va_S (ob_A b) s.heap H locs := by rw [hH, hL]; exact hS
  suffices hW : W p l e R s m args below meth c H locs 0 0 (MQ below (ob_Qi b D cA out) args s 0 0 (ob_A b)) (F0 m 0 ls []) by rw [hH, hL] at hW; exact hW
  refine lv_iconst (v := 0) hx hb d_Se_resourceUnder_0 (by decide) ?_
  refine lv_istore_n (lv' := [(2, .int (0 : Int32)), (0, .ref (b + v0)), (1, .ref (b + v1))]) hx hb d_Se_resourceUnder_1 rfl hl (by decide) rfl (fun ls hl => ?_)
  exact tB_Se_resourceUnder_2 Cx ob_fu t H locs ls v1 (0 : Int32) hP hS (lv_sub hl [2, 0] rfl) h
set_option maxHeartbeats 4000000 in
set_option maxRecDepth 100000 in
theorem tB_Se_takePart_25 {p : Program} {l : Launch} {e : Env} {R : Room} {s : State} {m : MethodId} {args : Array Value} {below : List Frame} {meth : Method} {c : Code} {b : Nat} {D : va_G} {cA : Nat → ClassId} {adK adV : Nat → Nat} {out : (Int32 × ob_S)} (Cx : ob_C p R s m args meth c cb_Se_takePart 5 "ObservedBlocks$Server" (some .int) b D cA adK adV 2 52) : ∀ (t : ob_S) (H : Heap) (locs : List Loc) (ls : Array Slot) (v0 : Nat) (v1 : Nat) (v2 : Int32) (v3 : Nat) (v4 : Int32), ob_H b D cA t H → va_S (ob_A b) s.heap H locs → lv_has ls 5 [(0, .ref (b + v0)), (1, .ref (b + v1)), (2, .int v2), (3, .ref (b + v3)), (4, .int v4)] → B_Se_takePart_25 v0 v1 v2 v3 v4 t = some out → W p l e R s m args below meth c H locs 0 0 (MQ below (ob_Qi b D cA out) args s 0 0 (ob_A b)) (F0 m 25 ls []) := by
  have hx := Cx.1.1
  have hb := Cx.1.2.1
  intro t H locs ls v0 v1 v2 v3 v4 hP hS hl h
  unfold B_Se_takePart_25 at h
  refine lv_iload hx hb d_Se_takePart_25 (lv_at hl 4 rfl) ?_
  refine lv_aload_n hx hb d_Se_takePart_27 rfl (lv_at hl 1 rfl) ?_
  refine ob_getI (k := 6) Cx hP ck_8 rfl w_f_Se_98 d_Se_takePart_28 h (fun x28 h => ?_)
  refine ob_cNi (nA := 1) (As := [.int x28]) (rest := [.int v4]) Cx hl.1 hP hS (fun o ho => c_Ob_szxOf x28 ho) ms_Ob_szxOf w_n_Se_130 rfl (by decide +kernel) ⟨rfl, rfl⟩ ⟨by decide, by decide⟩ (Nat.le_of_ble_eq_true rfl) rfl d_Se_takePart_31 h (fun x31 t31 H locs h hP hS => ?_)
  refine ob_cNi (nA := 1) (As := [.int x31]) (rest := [.int v4]) Cx hl.1 hP hS (fun o ho => c_Ob_sizeOf x31 ho) ms_Ob_sizeOf w_n_Se_133 rfl (by decide +kernel) ⟨rfl, rfl⟩ ⟨by decide, by decide⟩ (Nat.le_of_ble_eq_true rfl) rfl d_Se_takePart_34 h (fun x34 t34 H locs h hP hS => ?_)
  refine lv_imul hx hb d_Se_takePart_37 ?_
  refine lv_aload_n hx hb d_Se_takePart_38 rfl (lv_at hl 3 rfl) ?_
  refine ob_getI (k := 1) Cx hP ck_0 rfl w_f_Se_52 d_Se_takePart_39 h (fun x39 h => ?_)
  refine lv_icmp_eq (tgt := 49) hx hb d_Se_takePart_42 (by decide) (fun hq => ?_) (fun hq => ?_)
  · rw [if_pos hq] at h
    refine lv_aload_n hx hb d_Se_takePart_49 rfl (lv_at hl 3 rfl) ?_
    refine ob_getI (k := 1) Cx hP ck_0 rfl w_f_Se_52 d_Se_takePart_50 h (fun x50 h => ?_)
    refine lv_aload_n hx hb d_Se_takePart_53 rfl (lv_at hl 1 rfl) ?_
    refine ob_getR (k := 10) Cx hP ck_8 rfl w_f_Se_139 d_Se_takePart_54 h (fun n54 h => ?_)
    refine ob_getI (k := 1) Cx hP ck_0 rfl w_f_Se_52 d_Se_takePart_57 h (fun x57 h => ?_)
    refine lv_iadd hx hb d_Se_takePart_60 ?_
    refine lv_bipush (v := 64) hx hb d_Se_takePart_61 (by decide) ?_
    refine lv_icmp_le (tgt := 74) hx hb d_Se_takePart_63 (by decide) (fun hq => ?_) (fun hq => ?_)
    · rw [if_pos hq] at h
      refine lv_aload_n hx hb d_Se_takePart_74 rfl (lv_at hl 3 rfl) ?_
      refine lv_aload_n hx hb d_Se_takePart_75 rfl (lv_at hl 1 rfl) ?_
      refine ob_getR (k := 10) Cx hP ck_8 rfl w_f_Se_139 d_Se_takePart_76 h (fun n76 h => ?_)
      refine lv_iconst (v := 0) hx hb d_Se_takePart_79 (by decide) ?_
      refine lv_aload_n hx hb d_Se_takePart_80 rfl (lv_at hl 1 rfl) ?_
      refine ob_getR (k := 10) Cx hP ck_8 rfl w_f_Se_139 d_Se_takePart_81 h (fun n81 h => ?_)
      refine ob_getI (k := 1) Cx hP ck_0 rfl w_f_Se_52 d_Se_takePart_84 h (fun x84 h => ?_)
      refine ob_cVv (nA := 3) (As := [.ref (b + n76), .int (0 : Int32), .int x84]) (rest := []) Cx hl.1 hP hS (fun o ho => c_By_addFrom v3 n76 (0 : Int32) x84 ho) (fun o ho => g_By_addFrom v3 n76 (0 : Int32) x84 ho) (by decide) (rfl : ob_cl[0]? = _) mv_By_addFrom w_m_Se_142 rfl (by decide +kernel) ⟨rfl, rfl⟩ ⟨by decide, by decide⟩ (Nat.le_of_ble_eq_true rfl) rfl d_Se_takePart_87 h (fun t87 H locs h hP hS => ?_)
      refine lv_aload_n hx hb d_Se_takePart_90 rfl (lv_at hl 1 rfl) ?_
      refine ob_getI (k := 6) Cx hP ck_8 rfl w_f_Se_98 d_Se_takePart_91 h (fun x91 h => ?_)
      refine ob_cNi (nA := 1) (As := [.int x91]) (rest := []) Cx hl.1 hP hS (fun o ho => c_Ob_hasMore x91 ho) ms_Ob_hasMore w_n_Se_146 rfl (by decide +kernel) ⟨rfl, rfl⟩ ⟨by decide, by decide⟩ (Nat.le_of_ble_eq_true rfl) rfl d_Se_takePart_94 h (fun x94 t94 H locs h hP hS => ?_)
      refine lv_if_eq (tgt := 103) hx hb d_Se_takePart_97 (by decide) (fun hq => ?_) (fun hq => ?_)
      · rw [if_pos hq] at h
        refine lv_aload_n hx hb d_Se_takePart_103 rfl (lv_at hl 0 rfl) ?_
        refine ob_getR (k := 0) Cx hP ck_9 rfl w_f_Se_11 d_Se_takePart_104 h (fun n104 h => ?_)
        refine lv_iload_n hx hb d_Se_takePart_107 rfl (lv_at hl 2 rfl) ?_
        refine ob_aldR (kd := 14) Cx hP (by decide) rfl d_Se_takePart_108 h (fun n108 h => ?_)
        refine lv_aload_n hx hb d_Se_takePart_109 rfl (lv_at hl 3 rfl) ?_
        refine ob_cVv (nA := 1) (As := [.ref (b + v3)]) (rest := []) Cx hl.1 hP hS (fun o ho => c_By_become n108 v3 ho) (fun o ho => g_By_become n108 v3 ho) (by decide) (rfl : ob_cl[0]? = _) mv_By_become w_m_Se_149 rfl (by decide +kernel) ⟨rfl, rfl⟩ ⟨by decide, by decide⟩ (Nat.le_of_ble_eq_true rfl) rfl d_Se_takePart_110 h (fun t110 H locs h hP hS => ?_)
        refine lv_aload_n hx hb d_Se_takePart_113 rfl (lv_at hl 3 rfl) ?_
        refine ob_cVv (nA := 0) (As := []) (rest := []) Cx hl.1 hP hS (fun o ho => c_By_clear v3 ho) (fun o ho => g_By_clear v3 ho) (by decide) (rfl : ob_cl[0]? = _) mv_By_clear w_m_Se_136 rfl (by decide +kernel) ⟨rfl, rfl⟩ ⟨by decide, by decide⟩ (Nat.le_of_ble_eq_true rfl) rfl d_Se_takePart_114 h (fun t114 H locs h hP hS => ?_)
        refine lv_bipush (v := 68) hx hb d_Se_takePart_117 (by decide) ?_
        exact ob_iret Cx hP hS d_Se_takePart_119 h
      · rw [if_neg hq] at h
        refine lv_bipush (v := 95) hx hb d_Se_takePart_100 (by decide) ?_
        exact ob_iret Cx hP hS d_Se_takePart_102 h
    · rw [if_neg hq] at h
      refine lv_aload_n hx hb d_Se_takePart_66 rfl (lv_at hl 3 rfl) ?_
      refine ob_cVv (nA := 0) (As := []) (rest := []) Cx hl.1 hP hS (fun o ho => c_By_clear v3 ho) (fun o ho => g_By_clear v3 ho) (by decide) (rfl : ob_cl[0]? = _) mv_By_clear w_m_Se_136 rfl (by decide +kernel) ⟨rfl, rfl⟩ ⟨by decide, by decide⟩ (Nat.le_of_ble_eq_true rfl) rfl d_Se_takePart_67 h (fun t67 H locs h hP hS => ?_)
      refine lv_sipush (v := 141) hx hb d_Se_takePart_70 (by decide) ?_
      exact ob_iret Cx hP hS d_Se_takePart_73 h
  · rw [if_neg hq] at h
    refine lv_sipush (v := 136) hx hb d_Se_takePart_45 (by decide) ?_
    exact ob_iret Cx hP hS d_Se_takePart_48 h
theorem g_Se_takePart (v0 : Nat) (v1 : Nat) (v2 : Int32) {t : ob_S} {out : (Int32 × ob_S)} (h : X_Se_takePart v0 v1 v2 t = some out) : v0 < ob_n t ∧ ob_k t v0 = 9 := by
  unfold X_Se_takePart ob_this at h
  by_cases q : v0 < ob_n t ∧ ob_k t v0 = 9
  · exact q
  · rw [if_neg q] at h
    cases h
set_option maxHeartbeats 4000000 in
set_option maxRecDepth 100000 in
theorem c_Se_takePart {l : Launch} {b : Nat} {D : va_G} {cA : Nat → ClassId} {adK adV : Nat → Nat} (v0 : Nat) (v1 : Nat) (v2 : Int32) {t : ob_S} {out : (Int32 × ob_S)} (h : X_Se_takePart v0 v1 v2 t = some out) : Met l y_Se_takePart (Cond.code y_Se_takePart cb_Se_takePart 5 (some .int) :: ob_T) { frames := 2, cells := 0, slots := 0, locals := 52 } (ob_Pre b D cA adK adV [.ref (b + v0), .ref (b + v1), .int v2] t) (ob_Qi b D cA out) 0 0 (ob_A b) := by
  refine ob_met (by decide) (Nat.le_of_ble_eq_true rfl) ?_
  intro p e R s m args below meth c ls Cx hP hS hl
  have hl : lv_has ls 5 [(0, .ref (b + v0)), (1, .ref (b + v1)), (2, .int v2)] := hl
  have hx := Cx.1.1
  have hb := Cx.1.2.1
  have hg := g_Se_takePart v0 v1 v2 h
  unfold X_Se_takePart ob_this at h
  rw [if_pos hg] at h
  obtain ⟨H, hH⟩ : ∃ H, H = s.heap := ⟨_, rfl⟩
  obtain ⟨locs, hL⟩ : ∃ locs : List Loc, locs = [] := ⟨_, rfl⟩
  rw [← hH] at hP
  have hS : va_S (ob_A b) s.heap H locs := by rw [hH, hL]; exact hS
  suffices hW : W p l e R s m args below meth c H locs 0 0 (MQ below (ob_Qi b D cA out) args s 0 0 (ob_A b)) (F0 m 0 ls []) by rw [hH, hL] at hW; exact hW
  refine lv_aload_n hx hb d_Se_takePart_0 rfl (lv_at hl 0 rfl) ?_
  refine ob_getR (k := 4) Cx hP ck_9 rfl w_f_Se_17 d_Se_takePart_1 h (fun n1 h => ?_)
  refine lv_iload_n hx hb d_Se_takePart_4 rfl (lv_at hl 2 rfl) ?_
  refine ob_aldR (kd := 14) Cx hP (by decide) rfl d_Se_takePart_5 h (fun n5 h => ?_)
  refine lv_astore_n (lv' := [(3, .ref (b + n5)), (0, .ref (b + v0)), (1, .ref (b + v1)), (2, .int v2)]) hx hb d_Se_takePart_6 rfl hl (by decide) rfl (fun ls hl => ?_)
  refine lv_aload_n hx hb d_Se_takePart_7 rfl (lv_at hl 2 rfl) ?_
  refine ob_getI (k := 6) Cx hP ck_8 rfl w_f_Se_98 d_Se_takePart_8 h (fun x8 h => ?_)
  refine ob_cNi (nA := 1) (As := [.int x8]) (rest := []) Cx hl.1 hP hS (fun o ho => c_Ob_numOf x8 ho) ms_Ob_numOf w_n_Se_126 rfl (by decide +kernel) ⟨rfl, rfl⟩ ⟨by decide, by decide⟩ (Nat.le_of_ble_eq_true rfl) rfl d_Se_takePart_11 h (fun x11 t11 H locs h hP hS => ?_)
  refine lv_istore (lv' := [(4, .int x11), (3, .ref (b + n5)), (0, .ref (b + v0)), (1, .ref (b + v1)), (2, .int v2)]) hx hb d_Se_takePart_14 hl (by decide) rfl (fun ls hl => ?_)
  refine lv_iload hx hb d_Se_takePart_16 (lv_at hl 0 rfl) ?_
  refine lv_if_ne (tgt := 25) hx hb d_Se_takePart_18 (by decide) (fun hq => ?_) (fun hq => ?_)
  · rw [if_pos hq] at h
    exact tB_Se_takePart_25 Cx t11 H locs ls v0 v1 v2 n5 x11 hP hS (lv_sub hl [2, 3, 4, 1, 0] rfl) h
  · rw [if_neg (fun z => z hq)] at h
    refine lv_aload_n hx hb d_Se_takePart_21 rfl (lv_at hl 1 rfl) ?_
    refine ob_cVv (nA := 0) (As := []) (rest := []) Cx hl.1 hP hS (fun o ho => c_By_clear n5 ho) (fun o ho => g_By_clear n5 ho) (by decide) (rfl : ob_cl[0]? = _) mv_By_clear w_m_Se_136 rfl (by decide +kernel) ⟨rfl, rfl⟩ ⟨by decide, by decide⟩ (Nat.le_of_ble_eq_true rfl) rfl d_Se_takePart_22 h (fun t22 H locs h hP hS => ?_)
    exact tB_Se_takePart_25 Cx t22 H locs ls v0 v1 v2 n5 x11 hP hS (lv_sub hl [2, 3, 4, 1, 0] rfl) h
set_option maxHeartbeats 4000000 in
set_option maxRecDepth 100000 in
theorem tB_Se_handle_105 {p : Program} {l : Launch} {e : Env} {R : Room} {s : State} {m : MethodId} {args : Array Value} {below : List Frame} {meth : Method} {c : Code} {b : Nat} {D : va_G} {cA : Nat → ClassId} {adK adV : Nat → Nat} {out : (Int32 × ob_S)} (Cx : ob_C p R s m args meth c cb_Se_handle 5 "ObservedBlocks$Server" (some .int) b D cA adK adV 3 76) : ∀ (t : ob_S) (H : Heap) (locs : List Loc) (ls : Array Slot), ob_H b D cA t H → va_S (ob_A b) s.heap H locs → lv_has ls 5 [] → B_Se_handle_105 t = some out → W p l e R s m args below meth c H locs 0 0 (MQ below (ob_Qi b D cA out) args s 0 0 (ob_A b)) (F0 m 105 ls []) := by
  have hx := Cx.1.1
  have hb := Cx.1.2.1
  intro t H locs ls  hP hS hl h
  unfold B_Se_handle_105 at h
  refine lv_bipush (v := 69) hx hb d_Se_handle_105 (by decide) ?_
  exact ob_iret Cx hP hS d_Se_handle_107 h
set_option maxHeartbeats 4000000 in
set_option maxRecDepth 100000 in
theorem tB_Se_handle_88 {p : Program} {l : Launch} {e : Env} {R : Room} {s : State} {m : MethodId} {args : Array Value} {below : List Frame} {meth : Method} {c : Code} {b : Nat} {D : va_G} {cA : Nat → ClassId} {adK adV : Nat → Nat} {out : (Int32 × ob_S)} (Cx : ob_C p R s m args meth c cb_Se_handle 5 "ObservedBlocks$Server" (some .int) b D cA adK adV 3 76) : ∀ (t : ob_S) (H : Heap) (locs : List Loc) (ls : Array Slot) (v3 : Int32) (s0 : Int32), ob_H b D cA t H → va_S (ob_A b) s.heap H locs → lv_has ls 5 [(3, .int v3)] → B_Se_handle_88 v3 s0 t = some out → W p l e R s m args below meth c H locs 0 0 (MQ below (ob_Qi b D cA out) args s 0 0 (ob_A b)) (F0 m 88 ls [.int s0]) := by
  have hx := Cx.1.1
  have hb := Cx.1.2.1
  intro t H locs ls v3 s0 hP hS hl h
  unfold B_Se_handle_88 at h
  refine lv_istore (lv' := [(4, .int s0), (3, .int v3)]) hx hb d_Se_handle_88 hl (by decide) rfl (fun ls hl => ?_)
  refine lv_iload_n hx hb d_Se_handle_90 rfl (lv_at hl 1 rfl) ?_
  refine lv_if_eq (tgt := 105) hx hb d_Se_handle_91 (by decide) (fun hq => ?_) (fun hq => ?_)
  · rw [if_pos hq] at h
    exact tB_Se_handle_105 Cx t H locs ls hP hS (lv_sub hl [] rfl) h
  · rw [if_neg hq] at h
    refine lv_iload hx hb d_Se_handle_94 (lv_at hl 0 rfl) ?_
    refine lv_if_eq (tgt := 105) hx hb d_Se_handle_96 (by decide) (fun hq => ?_) (fun hq => ?_)
    · rw [if_pos hq] at h
      exact tB_Se_handle_105 Cx t H locs ls hP hS (lv_sub hl [] rfl) h
    · rw [if_neg hq] at h
      refine lv_sipush (v := 130) hx hb d_Se_handle_99 (by decide) ?_
      refine lv_goto (tgt := 107) hx hb d_Se_handle_102 (by decide) ?_
      exact ob_iret Cx hP hS d_Se_handle_107 h
set_option maxHeartbeats 4000000 in
set_option maxRecDepth 100000 in
theorem tB_Se_handle_28 {p : Program} {l : Launch} {e : Env} {R : Room} {s : State} {m : MethodId} {args : Array Value} {below : List Frame} {meth : Method} {c : Code} {b : Nat} {D : va_G} {cA : Nat → ClassId} {adK adV : Nat → Nat} {out : (Int32 × ob_S)} (Cx : ob_C p R s m args meth c cb_Se_handle 5 "ObservedBlocks$Server" (some .int) b D cA adK adV 3 76) : ∀ (t : ob_S) (H : Heap) (locs : List Loc) (ls : Array Slot) (v0 : Nat) (v1 : Nat) (v2 : Int32) (s0 : Int32), ob_H b D cA t H → va_S (ob_A b) s.heap H locs → lv_has ls 5 [(0, .ref (b + v0)), (1, .ref (b + v1)), (2, .int v2)] → B_Se_handle_28 v0 v1 v2 s0 t = some out → W p l e R s m args below meth c H locs 0 0 (MQ below (ob_Qi b D cA out) args s 0 0 (ob_A b)) (F0 m 28 ls [.int s0]) := by
  have hx := Cx.1.1
  have hb := Cx.1.2.1
  intro t H locs ls v0 v1 v2 s0 hP hS hl h
  unfold B_Se_handle_28 at h
  refine lv_iconst (v := -1) hx hb d_Se_handle_28 (by decide) ?_
  refine lv_icmp_ne (tgt := 36) hx hb d_Se_handle_29 (by decide) (fun hq => ?_) (fun hq => ?_)
  · rw [if_pos hq] at h
    refine lv_aload_n hx hb d_Se_handle_36 rfl (lv_at hl 1 rfl) ?_
    refine ob_getI (k := 1) Cx hP ck_8 rfl w_f_Se_117 d_Se_handle_37 h (fun x37 h => ?_)
    refine lv_iconst (v := 3) hx hb d_Se_handle_40 (by decide) ?_
    refine lv_icmp_ne (tgt := 51) hx hb d_Se_handle_41 (by decide) (fun hq => ?_) (fun hq => ?_)
    · rw [if_pos hq] at h
      refine lv_aload_n hx hb d_Se_handle_51 rfl (lv_at hl 1 rfl) ?_
      refine ob_getI (k := 5) Cx hP ck_8 rfl w_f_Se_120 d_Se_handle_52 h (fun x52 h => ?_)
      refine ob_cNi (nA := 1) (As := [.int x52]) (rest := []) Cx hl.1 hP hS (fun o ho => c_Ob_numOf x52 ho) ms_Ob_numOf w_n_Se_126 rfl (by decide +kernel) ⟨rfl, rfl⟩ ⟨by decide, by decide⟩ (Nat.le_of_ble_eq_true rfl) rfl d_Se_handle_55 h (fun x55 t55 H locs h hP hS => ?_)
      refine lv_istore_n (lv' := [(3, .int x55), (0, .ref (b + v0)), (1, .ref (b + v1)), (2, .int v2)]) hx hb d_Se_handle_58 rfl hl (by decide) rfl (fun ls hl => ?_)
      refine lv_iload_n hx hb d_Se_handle_59 rfl (lv_at hl 0 rfl) ?_
      refine lv_aload_n hx hb d_Se_handle_60 rfl (lv_at hl 2 rfl) ?_
      refine ob_getI (k := 5) Cx hP ck_8 rfl w_f_Se_120 d_Se_handle_61 h (fun x61 h => ?_)
      refine ob_cNi (nA := 1) (As := [.int x61]) (rest := [.int x55]) Cx hl.1 hP hS (fun o ho => c_Ob_szxOf x61 ho) ms_Ob_szxOf w_n_Se_130 rfl (by decide +kernel) ⟨rfl, rfl⟩ ⟨by decide, by decide⟩ (Nat.le_of_ble_eq_true rfl) rfl d_Se_handle_64 h (fun x64 t64 H locs h hP hS => ?_)
      refine ob_cNi (nA := 1) (As := [.int x64]) (rest := [.int x55]) Cx hl.1 hP hS (fun o ho => c_Ob_sizeOf x64 ho) ms_Ob_sizeOf w_n_Se_133 rfl (by decide +kernel) ⟨rfl, rfl⟩ ⟨by decide, by decide⟩ (Nat.le_of_ble_eq_true rfl) rfl d_Se_handle_67 h (fun x67 t67 H locs h hP hS => ?_)
      refine lv_imul hx hb d_Se_handle_70 ?_
      refine lv_aload_n hx hb d_Se_handle_71 rfl (lv_at hl 1 rfl) ?_
      refine ob_getR (k := 0) Cx hP ck_9 rfl w_f_Se_11 d_Se_handle_72 h (fun n72 h => ?_)
      refine lv_iload_n hx hb d_Se_handle_75 rfl (lv_at hl 3 rfl) ?_
      refine ob_aldR (kd := 14) Cx hP (by decide) rfl d_Se_handle_76 h (fun n76 h => ?_)
      refine ob_getI (k := 1) Cx hP ck_0 rfl w_f_Se_52 d_Se_handle_77 h (fun x77 h => ?_)
      refine lv_icmp_lt (tgt := 87) hx hb d_Se_handle_80 (by decide) (fun hq => ?_) (fun hq => ?_)
      · rw [if_pos hq] at h
        refine lv_iconst (v := 0) hx hb d_Se_handle_87 (by decide) ?_
        exact tB_Se_handle_88 Cx t67 H locs ls x55 (0 : Int32) hP hS (lv_sub hl [0] rfl) h
      · rw [if_neg hq] at h
        refine lv_iconst (v := 1) hx hb d_Se_handle_83 (by decide) ?_
        refine lv_goto (tgt := 88) hx hb d_Se_handle_84 (by decide) ?_
        exact tB_Se_handle_88 Cx t67 H locs ls x55 (1 : Int32) hP hS (lv_sub hl [0] rfl) h
    · rw [if_neg (fun z => z hq)] at h
      refine lv_aload_n hx hb d_Se_handle_44 rfl (lv_at hl 0 rfl) ?_
      refine lv_aload_n hx hb d_Se_handle_45 rfl (lv_at hl 1 rfl) ?_
      refine lv_iload_n hx hb d_Se_handle_46 rfl (lv_at hl 2 rfl) ?_
      refine ob_cVi (nA := 2) (As := [.ref (b + v1), .int v2]) (rest := []) Cx hl.1 hP hS (fun o ho => c_Se_takePart v0 v1 v2 ho) (fun o ho => g_Se_takePart v0 v1 v2 ho) (by decide) (rfl : ob_cl[9]? = _) mv_Se_takePart w_m_Se_123 rfl (by decide +kernel) ⟨rfl, rfl⟩ ⟨by decide, by decide⟩ (Nat.le_of_ble_eq_true rfl) rfl d_Se_handle_47 h (fun x47 t47 H locs h hP hS => ?_)
      exact ob_iret Cx hP hS d_Se_handle_50 h
  · rw [if_neg (fun z => z hq)] at h
    refine lv_sipush (v := 130) hx hb d_Se_handle_32 (by decide) ?_
    exact ob_iret Cx hP hS d_Se_handle_35 h
theorem g_Se_handle (v0 : Nat) (v1 : Nat) (v2 : Int32) {t : ob_S} {out : (Int32 × ob_S)} (h : X_Se_handle v0 v1 v2 t = some out) : v0 < ob_n t ∧ ob_k t v0 = 9 := by
  unfold X_Se_handle ob_this at h
  by_cases q : v0 < ob_n t ∧ ob_k t v0 = 9
  · exact q
  · rw [if_neg q] at h
    cases h
set_option maxHeartbeats 4000000 in
set_option maxRecDepth 100000 in
theorem c_Se_handle {l : Launch} {b : Nat} {D : va_G} {cA : Nat → ClassId} {adK adV : Nat → Nat} (v0 : Nat) (v1 : Nat) (v2 : Int32) {t : ob_S} {out : (Int32 × ob_S)} (h : X_Se_handle v0 v1 v2 t = some out) : Met l y_Se_handle (Cond.code y_Se_handle cb_Se_handle 5 (some .int) :: ob_T) { frames := 3, cells := 0, slots := 0, locals := 76 } (ob_Pre b D cA adK adV [.ref (b + v0), .ref (b + v1), .int v2] t) (ob_Qi b D cA out) 0 0 (ob_A b) := by
  refine ob_met (by decide) (Nat.le_of_ble_eq_true rfl) ?_
  intro p e R s m args below meth c ls Cx hP hS hl
  have hl : lv_has ls 5 [(0, .ref (b + v0)), (1, .ref (b + v1)), (2, .int v2)] := hl
  have hx := Cx.1.1
  have hb := Cx.1.2.1
  have hg := g_Se_handle v0 v1 v2 h
  unfold X_Se_handle ob_this at h
  rw [if_pos hg] at h
  obtain ⟨H, hH⟩ : ∃ H, H = s.heap := ⟨_, rfl⟩
  obtain ⟨locs, hL⟩ : ∃ locs : List Loc, locs = [] := ⟨_, rfl⟩
  rw [← hH] at hP
  have hS : va_S (ob_A b) s.heap H locs := by rw [hH, hL]; exact hS
  suffices hW : W p l e R s m args below meth c H locs 0 0 (MQ below (ob_Qi b D cA out) args s 0 0 (ob_A b)) (F0 m 0 ls []) by rw [hH, hL] at hW; exact hW
  refine lv_iload_n hx hb d_Se_handle_0 rfl (lv_at hl 2 rfl) ?_
  refine lv_iconst (v := -1) hx hb d_Se_handle_1 (by decide) ?_
  refine lv_icmp_ne (tgt := 9) hx hb d_Se_handle_2 (by decide) (fun hq => ?_) (fun hq => ?_)
  · rw [if_pos hq] at h
    refine lv_aload_n hx hb d_Se_handle_9 rfl (lv_at hl 1 rfl) ?_
    refine ob_getI (k := 1) Cx hP ck_8 rfl w_f_Se_117 d_Se_handle_10 h (fun x10 h => ?_)
    refine lv_iconst (v := 1) hx hb d_Se_handle_13 (by decide) ?_
    refine lv_icmp_ne (tgt := 24) hx hb d_Se_handle_14 (by decide) (fun hq => ?_) (fun hq => ?_)
    · rw [if_pos hq] at h
      refine lv_aload_n hx hb d_Se_handle_24 rfl (lv_at hl 1 rfl) ?_
      refine ob_getI (k := 6) Cx hP ck_8 rfl w_f_Se_98 d_Se_handle_25 h (fun x25 h => ?_)
      exact tB_Se_handle_28 Cx t H locs ls v0 v1 v2 x25 hP hS (lv_sub hl [0, 1, 2] rfl) h
    · rw [if_neg (fun z => z hq)] at h
      refine lv_aload_n hx hb d_Se_handle_17 rfl (lv_at hl 1 rfl) ?_
      refine ob_getI (k := 5) Cx hP ck_8 rfl w_f_Se_120 d_Se_handle_18 h (fun x18 h => ?_)
      refine lv_goto (tgt := 28) hx hb d_Se_handle_21 (by decide) ?_
      exact tB_Se_handle_28 Cx t H locs ls v0 v1 v2 x18 hP hS (lv_sub hl [0, 1, 2] rfl) h
  · rw [if_neg (fun z => z hq)] at h
    refine lv_sipush (v := 132) hx hb d_Se_handle_5 (by decide) ?_
    exact ob_iret Cx hP hS d_Se_handle_8 h
set_option maxHeartbeats 4000000 in
set_option maxRecDepth 100000 in
theorem tB_Se_watcherWith_2 {p : Program} {l : Launch} {e : Env} {R : Room} {s : State} {m : MethodId} {args : Array Value} {below : List Frame} {meth : Method} {c : Code} {b : Nat} {D : va_G} {cA : Nat → ClassId} {adK adV : Nat → Nat} {out : (Int32 × ob_S)} (Cx : ob_C p R s m args meth c cb_Se_watcherWith 3 "ObservedBlocks$Server" (some .int) b D cA adK adV 0 0) : ∀ (fu : Nat), ∀ (t : ob_S) (H : Heap) (locs : List Loc) (ls : Array Slot) (v0 : Nat) (v1 : Int32) (v2 : Int32), ob_H b D cA t H → va_S (ob_A b) s.heap H locs → lv_has ls 3 [(0, .ref (b + v0)), (1, .int v1), (2, .int v2)] → B_Se_watcherWith_2 fu v0 v1 v2 t = some out → W p l e R s m args below meth c H locs 0 0 (MQ below (ob_Qi b D cA out) args s 0 0 (ob_A b)) (F0 m 2 ls []) := by
  have hx := Cx.1.1
  have hb := Cx.1.2.1
  intro fu
  induction fu with
  | zero =>
    intro t H locs ls v0 v1 v2 hP hS hl h
    cases h
  | succ fu ih =>
    intro t H locs ls v0 v1 v2 hP hS hl h
    rw [B_Se_watcherWith_2] at h
    refine lv_iload_n hx hb d_Se_watcherWith_2 rfl (lv_at hl 2 rfl) ?_
    refine lv_aload_n hx hb d_Se_watcherWith_3 rfl (lv_at hl 0 rfl) ?_
    refine ob_getI (k := 2) Cx hP ck_9 rfl w_f_Se_183 d_Se_watcherWith_4 h (fun x4 h => ?_)
    refine lv_icmp_ge (tgt := 31) hx hb d_Se_watcherWith_7 (by decide) (fun hq => ?_) (fun hq => ?_)
    · rw [if_pos hq] at h
      refine lv_iconst (v := -1) hx hb d_Se_watcherWith_31 (by decide) ?_
      exact ob_iret Cx hP hS d_Se_watcherWith_32 h
    · rw [if_neg hq] at h
      refine lv_aload_n hx hb d_Se_watcherWith_10 rfl (lv_at hl 0 rfl) ?_
      refine ob_getR (k := 5) Cx hP ck_9 rfl w_f_Se_25 d_Se_watcherWith_11 h (fun n11 h => ?_)
      refine lv_iload_n hx hb d_Se_watcherWith_14 rfl (lv_at hl 2 rfl) ?_
      refine ob_aldR (kd := 16) Cx hP (by decide) rfl d_Se_watcherWith_15 h (fun n15 h => ?_)
      refine ob_getI (k := 1) Cx hP ck_5 rfl w_f_Se_186 d_Se_watcherWith_16 h (fun x16 h => ?_)
      refine lv_iload_n hx hb d_Se_watcherWith_19 rfl (lv_at hl 1 rfl) ?_
      refine lv_icmp_ne (tgt := 25) hx hb d_Se_watcherWith_20 (by decide) (fun hq => ?_) (fun hq => ?_)
      · rw [if_pos hq] at h
        refine lv_iinc (v := (v2 + (1 : Int32))) (lv' := [(2, .int (v2 + (1 : Int32))), (0, .ref (b + v0)), (1, .int v1)]) hx hb d_Se_watcherWith_25 hl (k := 2) rfl rfl (by decide) rfl (fun ls hl => ?_)
        refine lv_goto (tgt := 2) hx hb d_Se_watcherWith_28 (by decide) ?_
        exact ih t H locs ls v0 v1 (v2 + (1 : Int32)) hP hS (lv_sub hl [1, 2, 0] rfl) h
      · rw [if_neg (fun z => z hq)] at h
        refine lv_iload_n hx hb d_Se_watcherWith_23 rfl (lv_at hl 2 rfl) ?_
        exact ob_iret Cx hP hS d_Se_watcherWith_24 h
theorem g_Se_watcherWith (v0 : Nat) (v1 : Int32) {t : ob_S} {out : (Int32 × ob_S)} (h : X_Se_watcherWith v0 v1 t = some out) : v0 < ob_n t ∧ ob_k t v0 = 9 := by
  unfold X_Se_watcherWith ob_this at h
  by_cases q : v0 < ob_n t ∧ ob_k t v0 = 9
  · exact q
  · rw [if_neg q] at h
    cases h
set_option maxHeartbeats 4000000 in
set_option maxRecDepth 100000 in
theorem c_Se_watcherWith {l : Launch} {b : Nat} {D : va_G} {cA : Nat → ClassId} {adK adV : Nat → Nat} (v0 : Nat) (v1 : Int32) {t : ob_S} {out : (Int32 × ob_S)} (h : X_Se_watcherWith v0 v1 t = some out) : Met l y_Se_watcherWith (Cond.code y_Se_watcherWith cb_Se_watcherWith 3 (some .int) :: ob_T) { frames := 0, cells := 0, slots := 0, locals := 0 } (ob_Pre b D cA adK adV [.ref (b + v0), .int v1] t) (ob_Qi b D cA out) 0 0 (ob_A b) := by
  refine ob_met (by decide) (Nat.le_of_ble_eq_true rfl) ?_
  intro p e R s m args below meth c ls Cx hP hS hl
  have hl : lv_has ls 3 [(0, .ref (b + v0)), (1, .int v1)] := hl
  have hx := Cx.1.1
  have hb := Cx.1.2.1
  have hg := g_Se_watcherWith v0 v1 h
  unfold X_Se_watcherWith ob_this at h
  rw [if_pos hg] at h
  obtain ⟨H, hH⟩ : ∃ H, H = s.heap := ⟨_, rfl⟩
  obtain ⟨locs, hL⟩ : ∃ locs : List Loc, locs = [] := ⟨_, rfl⟩
  rw [← hH] at hP
  have hS : va_S (ob_A b) s.heap H locs := by rw [hH, hL]; exact hS
  suffices hW : W p l e R s m args below meth c H locs 0 0 (MQ below (ob_Qi b D cA out) args s 0 0 (ob_A b)) (F0 m 0 ls []) by rw [hH, hL] at hW; exact hW
  refine lv_iconst (v := 0) hx hb d_Se_watcherWith_0 (by decide) ?_
  refine lv_istore_n (lv' := [(2, .int (0 : Int32)), (0, .ref (b + v0)), (1, .int v1)]) hx hb d_Se_watcherWith_1 rfl hl (by decide) rfl (fun ls hl => ?_)
  exact tB_Se_watcherWith_2 Cx ob_fu t H locs ls v0 v1 (0 : Int32) hP hS (lv_sub hl [1, 2, 0] rfl) h
theorem g_Wa_begin (v0 : Nat) (v1 : Int32) (v2 : Int32) (v3 : Int32) {t : ob_S} {out : ob_S} (h : X_Wa_begin v0 v1 v2 v3 t = some out) : v0 < ob_n t ∧ ob_k t v0 = 5 := by
  unfold X_Wa_begin ob_this at h
  by_cases q : v0 < ob_n t ∧ ob_k t v0 = 5
  · exact q
  · rw [if_neg q] at h
    cases h
set_option maxHeartbeats 4000000 in
set_option maxRecDepth 100000 in
theorem c_Wa_begin {l : Launch} {b : Nat} {D : va_G} {cA : Nat → ClassId} {adK adV : Nat → Nat} (v0 : Nat) (v1 : Int32) (v2 : Int32) (v3 : Int32) {t : ob_S} {out : ob_S} (h : X_Wa_begin v0 v1 v2 v3 t = some out) : Met l y_Wa_begin (Cond.code y_Wa_begin cb_Wa_begin 4 none :: ob_T) { frames := 1, cells := 0, slots := 0, locals := 20 } (ob_Pre b D cA adK adV [.ref (b + v0), .int v1, .int v2, .int v3] t) (ob_Qv b D cA out) 0 0 (ob_A b) := by
  refine ob_met (by decide) (Nat.le_of_ble_eq_true rfl) ?_
  intro p e R s m args below meth c ls Cx hP hS hl
  have hl : lv_has ls 4 [(0, .ref (b + v0)), (1, .int v1), (2, .int v2), (3, .int v3)] := hl
  have hx := Cx.1.1
  have hb := Cx.1.2.1
  have hg := g_Wa_begin v0 v1 v2 v3 h
  unfold X_Wa_begin ob_this at h
  rw [if_pos hg] at h
  obtain ⟨H, hH⟩ : ∃ H, H = s.heap := ⟨_, rfl⟩
  obtain ⟨locs, hL⟩ : ∃ locs : List Loc, locs = [] := ⟨_, rfl⟩
  rw [← hH] at hP
  have hS : va_S (ob_A b) s.heap H locs := by rw [hH, hL]; exact hS
  suffices hW : W p l e R s m args below meth c H locs 0 0 (MQ below (ob_Qv b D cA out) args s 0 0 (ob_A b)) (F0 m 0 ls []) by rw [hH, hL] at hW; exact hW
  refine lv_aload_n hx hb d_Wa_begin_0 rfl (lv_at hl 0 rfl) ?_
  refine ob_getR (k := 0) Cx hP ck_5 rfl w_f_Wa_10 d_Wa_begin_1 h (fun n1 h => ?_)
  refine ob_cVv (nA := 0) (As := []) (rest := []) Cx hl.1 hP hS (fun o ho => c_Pe_stop n1 ho) (fun o ho => g_Pe_stop n1 ho) (by decide) (rfl : ob_cl[3]? = _) mv_Pe_stop w_m_Wa_16 rfl (by decide +kernel) ⟨rfl, rfl⟩ ⟨by decide, by decide⟩ (Nat.le_of_ble_eq_true rfl) rfl d_Wa_begin_4 h (fun t4 H locs h hP hS => ?_)
  refine lv_aload_n hx hb d_Wa_begin_7 rfl (lv_at hl 0 rfl) ?_
  refine lv_iload_n hx hb d_Wa_begin_8 rfl (lv_at hl 1 rfl) ?_
  refine ob_putI (k := 1) Cx hP hS ck_5 rfl rfl rfl w_f_Wa_19 d_Wa_begin_9 h (fun t9 H locs h hP hS => ?_)
  refine lv_aload_n hx hb d_Wa_begin_12 rfl (lv_at hl 0 rfl) ?_
  refine lv_iload_n hx hb d_Wa_begin_13 rfl (lv_at hl 2 rfl) ?_
  refine ob_putI (k := 2) Cx hP hS ck_5 rfl rfl rfl w_f_Wa_23 d_Wa_begin_14 h (fun t14 H locs h hP hS => ?_)
  refine lv_aload_n hx hb d_Wa_begin_17 rfl (lv_at hl 0 rfl) ?_
  refine lv_iload_n hx hb d_Wa_begin_18 rfl (lv_at hl 3 rfl) ?_
  refine ob_putI (k := 3) Cx hP hS ck_5 rfl rfl rfl w_f_Wa_26 d_Wa_begin_19 h (fun t19 H locs h hP hS => ?_)
  refine lv_aload_n hx hb d_Wa_begin_22 rfl (lv_at hl 0 rfl) ?_
  refine lv_iconst (v := 0) hx hb d_Wa_begin_23 (by decide) ?_
  refine ob_putZ (k := 4) Cx hP hS ck_5 rfl rfl rfl w_f_Wa_29 d_Wa_begin_24 h (fun t24 H locs h hP hS => ?_)
  exact ob_vret Cx hP hS d_Wa_begin_27 h
set_option maxHeartbeats 4000000 in
set_option maxRecDepth 100000 in
theorem tB_Se_beginWatch_39 {p : Program} {l : Launch} {e : Env} {R : Room} {s : State} {m : MethodId} {args : Array Value} {below : List Frame} {meth : Method} {c : Code} {b : Nat} {D : va_G} {cA : Nat → ClassId} {adK adV : Nat → Nat} {out : (Int32 × ob_S)} (Cx : ob_C p R s m args meth c cb_Se_beginWatch 5 "ObservedBlocks$Server" (some .boolean) b D cA adK adV 2 43) : ∀ (t : ob_S) (H : Heap) (locs : List Loc) (ls : Array Slot) (v0 : Nat) (v1 : Int32) (v2 : Int32) (v3 : Int32) (v4 : Int32), ob_H b D cA t H → va_S (ob_A b) s.heap H locs → lv_has ls 5 [(0, .ref (b + v0)), (1, .int v1), (2, .int v2), (3, .int v3), (4, .int v4)] → B_Se_beginWatch_39 v0 v1 v2 v3 v4 t = some out → W p l e R s m args below meth c H locs 0 0 (MQ below (ob_Qi b D cA out) args s 0 0 (ob_A b)) (F0 m 39 ls []) := by
  have hx := Cx.1.1
  have hb := Cx.1.2.1
  intro t H locs ls v0 v1 v2 v3 v4 hP hS hl h
  unfold B_Se_beginWatch_39 at h
  refine lv_aload_n hx hb d_Se_beginWatch_39 rfl (lv_at hl 0 rfl) ?_
  refine ob_getR (k := 5) Cx hP ck_9 rfl w_f_Se_25 d_Se_beginWatch_40 h (fun n40 h => ?_)
  refine lv_iload hx hb d_Se_beginWatch_43 (lv_at hl 4 rfl) ?_
  refine ob_aldR (kd := 16) Cx hP (by decide) rfl d_Se_beginWatch_45 h (fun n45 h => ?_)
  refine lv_iload_n hx hb d_Se_beginWatch_46 rfl (lv_at hl 1 rfl) ?_
  refine lv_iload_n hx hb d_Se_beginWatch_47 rfl (lv_at hl 2 rfl) ?_
  refine lv_iload_n hx hb d_Se_beginWatch_48 rfl (lv_at hl 3 rfl) ?_
  refine ob_cVv (nA := 3) (As := [.int v1, .int v2, .int v3]) (rest := []) Cx hl.1 hP hS (fun o ho => c_Wa_begin n45 v1 v2 v3 ho) (fun o ho => g_Wa_begin n45 v1 v2 v3 ho) (by decide) (rfl : ob_cl[5]? = _) mv_Wa_begin w_m_Se_187 rfl (by decide +kernel) ⟨rfl, rfl⟩ ⟨by decide, by decide⟩ (Nat.le_of_ble_eq_true rfl) rfl d_Se_beginWatch_49 h (fun t49 H locs h hP hS => ?_)
  refine lv_iconst (v := 1) hx hb d_Se_beginWatch_52 (by decide) ?_
  exact ob_zret Cx hP hS d_Se_beginWatch_53 h
theorem g_Se_beginWatch (v0 : Nat) (v1 : Int32) (v2 : Int32) (v3 : Int32) {t : ob_S} {out : (Int32 × ob_S)} (h : X_Se_beginWatch v0 v1 v2 v3 t = some out) : v0 < ob_n t ∧ ob_k t v0 = 9 := by
  unfold X_Se_beginWatch ob_this at h
  by_cases q : v0 < ob_n t ∧ ob_k t v0 = 9
  · exact q
  · rw [if_neg q] at h
    cases h
set_option maxHeartbeats 4000000 in
set_option maxRecDepth 100000 in
theorem c_Se_beginWatch {l : Launch} {b : Nat} {D : va_G} {cA : Nat → ClassId} {adK adV : Nat → Nat} (v0 : Nat) (v1 : Int32) (v2 : Int32) (v3 : Int32) {t : ob_S} {out : (Int32 × ob_S)} (h : X_Se_beginWatch v0 v1 v2 v3 t = some out) : Met l y_Se_beginWatch (Cond.code y_Se_beginWatch cb_Se_beginWatch 5 (some .boolean) :: ob_T) { frames := 2, cells := 0, slots := 0, locals := 43 } (ob_Pre b D cA adK adV [.ref (b + v0), .int v1, .int v2, .int v3] t) (ob_Qi b D cA out) 0 0 (ob_A b) := by
  refine ob_met (by decide) (Nat.le_of_ble_eq_true rfl) ?_
  intro p e R s m args below meth c ls Cx hP hS hl
  have hl : lv_has ls 5 [(0, .ref (b + v0)), (1, .int v1), (2, .int v2), (3, .int v3)] := hl
  have hx := Cx.1.1
  have hb := Cx.1.2.1
  have hg := g_Se_beginWatch v0 v1 v2 v3 h
  unfold X_Se_beginWatch ob_this at h
  rw [if_pos hg] at h
  obtain ⟨H, hH⟩ : ∃ H, H = s.heap := ⟨_, rfl⟩
  obtain ⟨locs, hL⟩ : ∃ locs : List Loc, locs = [] := ⟨_, rfl⟩
  rw [← hH] at hP
  have hS : va_S (ob_A b) s.heap H locs := by rw [hH, hL]; exact hS
  suffices hW : W p l e R s m args below meth c H locs 0 0 (MQ below (ob_Qi b D cA out) args s 0 0 (ob_A b)) (F0 m 0 ls []) by rw [hH, hL] at hW; exact hW
  refine lv_aload_n hx hb d_Se_beginWatch_0 rfl (lv_at hl 0 rfl) ?_
  refine lv_iload_n hx hb d_Se_beginWatch_1 rfl (lv_at hl 1 rfl) ?_
  refine ob_cVi (nA := 1) (As := [.int v1]) (rest := []) Cx hl.1 hP hS (fun o ho => c_Se_watcherWith v0 v1 ho) (fun o ho => g_Se_watcherWith v0 v1 ho) (by decide) (rfl : ob_cl[9]? = _) mv_Se_watcherWith w_m_Se_166 rfl (by decide +kernel) ⟨rfl, rfl⟩ ⟨by decide, by decide⟩ (Nat.le_of_ble_eq_true rfl) rfl d_Se_beginWatch_2 h (fun x2 t2 H locs h hP hS => ?_)
  refine lv_istore (lv' := [(4, .int x2), (0, .ref (b + v0)), (1, .int v1), (2, .int v2), (3, .int v3)]) hx hb d_Se_beginWatch_5 hl (by decide) rfl (fun ls hl => ?_)
  refine lv_iload hx hb d_Se_beginWatch_7 (lv_at hl 0 rfl) ?_
  refine lv_iconst (v := -1) hx hb d_Se_beginWatch_9 (by decide) ?_
  refine lv_icmp_ne (tgt := 39) hx hb d_Se_beginWatch_10 (by decide) (fun hq => ?_) (fun hq => ?_)
  · rw [if_pos hq] at h
    exact tB_Se_beginWatch_39 Cx t2 H locs ls v0 v1 v2 v3 x2 hP hS (lv_sub hl [1, 2, 3, 4, 0] rfl) h
  · rw [if_neg (fun z => z hq)] at h
    refine lv_aload_n hx hb d_Se_beginWatch_13 rfl (lv_at hl 1 rfl) ?_
    refine ob_getI (k := 2) Cx hP ck_9 rfl w_f_Se_183 d_Se_beginWatch_14 h (fun x14 h => ?_)
    refine lv_iconst (v := 2) hx hb d_Se_beginWatch_17 (by decide) ?_
    refine lv_icmp_ne (tgt := 23) hx hb d_Se_beginWatch_18 (by decide) (fun hq => ?_) (fun hq => ?_)
    · rw [if_pos hq] at h
      refine lv_aload_n hx hb d_Se_beginWatch_23 rfl (lv_at hl 1 rfl) ?_
      refine ob_getI (k := 2) Cx hP ck_9 rfl w_f_Se_183 d_Se_beginWatch_24 h (fun x24 h => ?_)
      refine lv_istore (lv' := [(4, .int x24), (0, .ref (b + v0)), (1, .int v1), (2, .int v2), (3, .int v3)]) hx hb d_Se_beginWatch_27 hl (by decide) rfl (fun ls hl => ?_)
      refine lv_aload_n hx hb d_Se_beginWatch_29 rfl (lv_at hl 1 rfl) ?_
      refine lv_dup hx hb d_Se_beginWatch_30 rfl ?_
      refine ob_getI (k := 2) Cx hP ck_9 rfl w_f_Se_183 d_Se_beginWatch_31 h (fun x31 h => ?_)
      refine lv_iconst (v := 1) hx hb d_Se_beginWatch_34 (by decide) ?_
      refine lv_iadd hx hb d_Se_beginWatch_35 ?_
      refine ob_putI (k := 2) Cx hP hS ck_9 rfl rfl rfl w_f_Se_183 d_Se_beginWatch_36 h (fun t36 H locs h hP hS => ?_)
      exact tB_Se_beginWatch_39 Cx t36 H locs ls v0 v1 v2 v3 x24 hP hS (lv_sub hl [1, 2, 3, 4, 0] rfl) h
    · rw [if_neg (fun z => z hq)] at h
      refine lv_iconst (v := 0) hx hb d_Se_beginWatch_21 (by decide) ?_
      exact ob_zret Cx hP hS d_Se_beginWatch_22 h
set_option maxHeartbeats 4000000 in
set_option maxRecDepth 100000 in
theorem tB_Se_addContent_90 {p : Program} {l : Launch} {e : Env} {R : Room} {s : State} {m : MethodId} {args : Array Value} {below : List Frame} {meth : Method} {c : Code} {b : Nat} {D : va_G} {cA : Nat → ClassId} {adK adV : Nat → Nat} {out : ob_S} (Cx : ob_C p R s m args meth c cb_Se_addContent 5 "ObservedBlocks$Server" none b D cA adK adV 3 75) : ∀ (t : ob_S) (H : Heap) (locs : List Loc) (ls : Array Slot) (v0 : Nat) (v2 : Int32) (v3 : Int32) (v4 : Int32), ob_H b D cA t H → va_S (ob_A b) s.heap H locs → lv_has ls 5 [(0, .ref (b + v0)), (2, .int v2), (3, .int v3), (4, .int v4)] → B_Se_addContent_90 v0 v2 v3 v4 t = some out → W p l e R s m args below meth c H locs 0 0 (MQ below (ob_Qv b D cA out) args s 0 0 (ob_A b)) (F0 m 90 ls []) := by
  have hx := Cx.1.1
  have hb := Cx.1.2.1
  intro t H locs ls v0 v2 v3 v4 hP hS hl h
  unfold B_Se_addContent_90 at h
  refine lv_aload_n hx hb d_Se_addContent_90 rfl (lv_at hl 0 rfl) ?_
  refine ob_getR (k := 8) Cx hP ck_9 rfl w_f_Se_44 d_Se_addContent_91 h (fun n91 h => ?_)
  refine lv_bipush (v := 23) hx hb d_Se_addContent_94 (by decide) ?_
  refine lv_aload_n hx hb d_Se_addContent_96 rfl (lv_at hl 0 rfl) ?_
  refine lv_iload_n hx hb d_Se_addContent_97 rfl (lv_at hl 1 rfl) ?_
  refine lv_iload_n hx hb d_Se_addContent_98 rfl (lv_at hl 2 rfl) ?_
  refine lv_iload hx hb d_Se_addContent_99 (lv_at hl 3 rfl) ?_
  refine ob_cVi (nA := 3) (As := [.int v2, .int v3, .int v4]) (rest := [.int (23 : Int32), .ref (b + n91)]) Cx hl.1 hP hS (fun o ho => c_Se_blockIn v0 v2 v3 v4 ho) (fun o ho => g_Se_blockIn v0 v2 v3 v4 ho) (by decide) (rfl : ob_cl[9]? = _) mv_Se_blockIn w_m_Se_172 rfl (by decide +kernel) ⟨rfl, rfl⟩ ⟨by decide, by decide⟩ (Nat.le_of_ble_eq_true rfl) rfl d_Se_addContent_101 h (fun x101 t101 H locs h hP hS => ?_)
  refine ob_cVv (nA := 2) (As := [.int (23 : Int32), .int x101]) (rest := []) Cx hl.1 hP hS (fun o ho => c_Wr_addNumber n91 (23 : Int32) x101 ho) (fun o ho => g_Wr_addNumber n91 (23 : Int32) x101 ho) (by decide) (rfl : ob_cl[4]? = _) mv_Wr_addNumber w_m_Se_101 rfl (by decide +kernel) ⟨rfl, rfl⟩ ⟨by decide, by decide⟩ (Nat.le_of_ble_eq_true rfl) rfl d_Se_addContent_104 h (fun t104 H locs h hP hS => ?_)
  refine lv_aload_n hx hb d_Se_addContent_107 rfl (lv_at hl 0 rfl) ?_
  refine ob_getR (k := 8) Cx hP ck_9 rfl w_f_Se_44 d_Se_addContent_108 h (fun n108 h => ?_)
  refine lv_aload_n hx hb d_Se_addContent_111 rfl (lv_at hl 0 rfl) ?_
  refine ob_getR (k := 0) Cx hP ck_9 rfl w_f_Se_11 d_Se_addContent_112 h (fun n112 h => ?_)
  refine lv_iload_n hx hb d_Se_addContent_115 rfl (lv_at hl 1 rfl) ?_
  refine ob_aldR (kd := 14) Cx hP (by decide) rfl d_Se_addContent_116 h (fun n116 h => ?_)
  refine lv_iload_n hx hb d_Se_addContent_117 rfl (lv_at hl 2 rfl) ?_
  refine lv_iload hx hb d_Se_addContent_118 (lv_at hl 3 rfl) ?_
  refine ob_cNi (nA := 1) (As := [.int v4]) (rest := [.int v3, .ref (b + n116), .ref (b + n108)]) Cx hl.1 hP hS (fun o ho => c_Ob_sizeOf v4 ho) ms_Ob_sizeOf w_n_Se_133 rfl (by decide +kernel) ⟨rfl, rfl⟩ ⟨by decide, by decide⟩ (Nat.le_of_ble_eq_true rfl) rfl d_Se_addContent_120 h (fun x120 t120 H locs h hP hS => ?_)
  refine lv_imul hx hb d_Se_addContent_123 ?_
  refine lv_iload hx hb d_Se_addContent_124 (lv_at hl 3 rfl) ?_
  refine ob_cNi (nA := 1) (As := [.int v4]) (rest := [.int (v3 * x120), .ref (b + n116), .ref (b + n108)]) Cx hl.1 hP hS (fun o ho => c_Ob_sizeOf v4 ho) ms_Ob_sizeOf w_n_Se_133 rfl (by decide +kernel) ⟨rfl, rfl⟩ ⟨by decide, by decide⟩ (Nat.le_of_ble_eq_true rfl) rfl d_Se_addContent_126 h (fun x126 t126 H locs h hP hS => ?_)
  refine ob_cVv (nA := 3) (As := [.ref (b + n116), .int (v3 * x120), .int x126]) (rest := []) Cx hl.1 hP hS (fun o ho => c_Wr_addPayload n108 n116 (v3 * x120) x126 ho) (fun o ho => g_Wr_addPayload n108 n116 (v3 * x120) x126 ho) (by decide) (rfl : ob_cl[4]? = _) mv_Wr_addPayload w_m_Se_176 rfl (by decide +kernel) ⟨rfl, rfl⟩ ⟨by decide, by decide⟩ (Nat.le_of_ble_eq_true rfl) rfl d_Se_addContent_129 h (fun t129 H locs h hP hS => ?_)
  exact ob_vret Cx hP hS d_Se_addContent_132 h
set_option maxHeartbeats 4000000 in
set_option maxRecDepth 100000 in
theorem tB_Se_addContent_66 {p : Program} {l : Launch} {e : Env} {R : Room} {s : State} {m : MethodId} {args : Array Value} {below : List Frame} {meth : Method} {c : Code} {b : Nat} {D : va_G} {cA : Nat → ClassId} {adK adV : Nat → Nat} {out : ob_S} (Cx : ob_C p R s m args meth c cb_Se_addContent 5 "ObservedBlocks$Server" none b D cA adK adV 3 75) : ∀ (t : ob_S) (H : Heap) (locs : List Loc) (ls : Array Slot) (v0 : Nat) (v1 : Nat) (v2 : Int32) (v3 : Int32) (v4 : Int32), ob_H b D cA t H → va_S (ob_A b) s.heap H locs → lv_has ls 5 [(0, .ref (b + v0)), (1, .ref (b + v1)), (2, .int v2), (3, .int v3), (4, .int v4)] → B_Se_addContent_66 v0 v1 v2 v3 v4 t = some out → W p l e R s m args below meth c H locs 0 0 (MQ below (ob_Qv b D cA out) args s 0 0 (ob_A b)) (F0 m 66 ls []) := by
  have hx := Cx.1.1
  have hb := Cx.1.2.1
  intro t H locs ls v0 v1 v2 v3 v4 hP hS hl h
  unfold B_Se_addContent_66 at h
  refine lv_iload_n hx hb d_Se_addContent_66 rfl (lv_at hl 3 rfl) ?_
  refine lv_if_ne (tgt := 90) hx hb d_Se_addContent_67 (by decide) (fun hq => ?_) (fun hq => ?_)
  · rw [if_pos hq] at h
    exact tB_Se_addContent_90 Cx t H locs ls v0 v2 v3 v4 hP hS (lv_sub hl [0, 2, 3, 4] rfl) h
  · rw [if_neg (fun z => z hq)] at h
    refine lv_aload_n hx hb d_Se_addContent_70 rfl (lv_at hl 1 rfl) ?_
    refine ob_getI (k := 4) Cx hP ck_8 rfl w_f_Se_153 d_Se_addContent_71 h (fun x71 h => ?_)
    refine lv_iconst (v := 1) hx hb d_Se_addContent_74 (by decide) ?_
    refine lv_icmp_ne (tgt := 90) hx hb d_Se_addContent_75 (by decide) (fun hq => ?_) (fun hq => ?_)
    · rw [if_pos hq] at h
      exact tB_Se_addContent_90 Cx t H locs ls v0 v2 v3 v4 hP hS (lv_sub hl [0, 2, 3, 4] rfl) h
    · rw [if_neg (fun z => z hq)] at h
      refine lv_aload_n hx hb d_Se_addContent_78 rfl (lv_at hl 0 rfl) ?_
      refine lv_aload_n hx hb d_Se_addContent_79 rfl (lv_at hl 0 rfl) ?_
      refine lv_aload_n hx hb d_Se_addContent_80 rfl (lv_at hl 1 rfl) ?_
      refine ob_getI (k := 3) Cx hP ck_8 rfl w_f_Se_87 d_Se_addContent_81 h (fun x81 h => ?_)
      refine ob_cVi (nA := 1) (As := [.int x81]) (rest := [.ref (b + v0)]) Cx hl.1 hP hS (fun o ho => c_Se_watcherWith v0 x81 ho) (fun o ho => g_Se_watcherWith v0 x81 ho) (by decide) (rfl : ob_cl[9]? = _) mv_Se_watcherWith w_m_Se_166 rfl (by decide +kernel) ⟨rfl, rfl⟩ ⟨by decide, by decide⟩ (Nat.le_of_ble_eq_true rfl) rfl d_Se_addContent_84 h (fun x84 t84 H locs h hP hS => ?_)
      refine ob_cVv (nA := 1) (As := [.int x84]) (rest := []) Cx hl.1 hP hS (fun o ho => c_Se_endWatch v0 x84 ho) (fun o ho => g_Se_endWatch v0 x84 ho) (by decide) (rfl : ob_cl[9]? = _) mv_Se_endWatch w_m_Se_169 rfl (by decide +kernel) ⟨rfl, rfl⟩ ⟨by decide, by decide⟩ (Nat.le_of_ble_eq_true rfl) rfl d_Se_addContent_87 h (fun t87 H locs h hP hS => ?_)
      exact tB_Se_addContent_90 Cx t87 H locs ls v0 v2 v3 v4 hP hS (lv_sub hl [0, 2, 3, 4] rfl) h
theorem g_Se_addContent (v0 : Nat) (v1 : Nat) (v2 : Int32) {t : ob_S} {out : ob_S} (h : X_Se_addContent v0 v1 v2 t = some out) : v0 < ob_n t ∧ ob_k t v0 = 9 := by
  unfold X_Se_addContent ob_this at h
  by_cases q : v0 < ob_n t ∧ ob_k t v0 = 9
  · exact q
  · rw [if_neg q] at h
    cases h
set_option maxHeartbeats 4000000 in
set_option maxRecDepth 100000 in
theorem c_Se_addContent {l : Launch} {b : Nat} {D : va_G} {cA : Nat → ClassId} {adK adV : Nat → Nat} (v0 : Nat) (v1 : Nat) (v2 : Int32) {t : ob_S} {out : ob_S} (h : X_Se_addContent v0 v1 v2 t = some out) : Met l y_Se_addContent (Cond.code y_Se_addContent cb_Se_addContent 5 none :: ob_T) { frames := 3, cells := 0, slots := 0, locals := 75 } (ob_Pre b D cA adK adV [.ref (b + v0), .ref (b + v1), .int v2] t) (ob_Qv b D cA out) 0 0 (ob_A b) := by
  refine ob_met (by decide) (Nat.le_of_ble_eq_true rfl) ?_
  intro p e R s m args below meth c ls Cx hP hS hl
  have hl : lv_has ls 5 [(0, .ref (b + v0)), (1, .ref (b + v1)), (2, .int v2)] := hl
  have hx := Cx.1.1
  have hb := Cx.1.2.1
  have hg := g_Se_addContent v0 v1 v2 h
  unfold X_Se_addContent ob_this at h
  rw [if_pos hg] at h
  obtain ⟨H, hH⟩ : ∃ H, H = s.heap := ⟨_, rfl⟩
  obtain ⟨locs, hL⟩ : ∃ locs : List Loc, locs = [] := ⟨_, rfl⟩
  rw [← hH] at hP
  have hS : va_S (ob_A b) s.heap H locs := by rw [hH, hL]; exact hS
  suffices hW : W p l e R s m args below meth c H locs 0 0 (MQ below (ob_Qv b D cA out) args s 0 0 (ob_A b)) (F0 m 0 ls []) by rw [hH, hL] at hW; exact hW
  refine lv_aload_n hx hb d_Se_addContent_0 rfl (lv_at hl 1 rfl) ?_
  refine ob_getI (k := 5) Cx hP ck_8 rfl w_f_Se_120 d_Se_addContent_1 h (fun x1 h => ?_)
  refine ob_cNi (nA := 1) (As := [.int x1]) (rest := []) Cx hl.1 hP hS (fun o ho => c_Ob_numOf x1 ho) ms_Ob_numOf w_n_Se_126 rfl (by decide +kernel) ⟨rfl, rfl⟩ ⟨by decide, by decide⟩ (Nat.le_of_ble_eq_true rfl) rfl d_Se_addContent_4 h (fun x4 t4 H locs h hP hS => ?_)
  refine lv_istore_n (lv' := [(3, .int x4), (0, .ref (b + v0)), (1, .ref (b + v1)), (2, .int v2)]) hx hb d_Se_addContent_7 rfl hl (by decide) rfl (fun ls hl => ?_)
  refine lv_aload_n hx hb d_Se_addContent_8 rfl (lv_at hl 2 rfl) ?_
  refine ob_getI (k := 5) Cx hP ck_8 rfl w_f_Se_120 d_Se_addContent_9 h (fun x9 h => ?_)
  refine ob_cNi (nA := 1) (As := [.int x9]) (rest := []) Cx hl.1 hP hS (fun o ho => c_Ob_szxOf x9 ho) ms_Ob_szxOf w_n_Se_130 rfl (by decide +kernel) ⟨rfl, rfl⟩ ⟨by decide, by decide⟩ (Nat.le_of_ble_eq_true rfl) rfl d_Se_addContent_12 h (fun x12 t12 H locs h hP hS => ?_)
  refine lv_istore (lv' := [(4, .int x12), (3, .int x4), (0, .ref (b + v0)), (1, .ref (b + v1)), (2, .int v2)]) hx hb d_Se_addContent_15 hl (by decide) rfl (fun ls hl => ?_)
  refine lv_iload_n hx hb d_Se_addContent_17 rfl (lv_at hl 1 rfl) ?_
  refine lv_if_ne (tgt := 66) hx hb d_Se_addContent_18 (by decide) (fun hq => ?_) (fun hq => ?_)
  · rw [if_pos hq] at h
    exact tB_Se_addContent_66 Cx t12 H locs ls v0 v1 v2 x4 x12 hP hS (lv_sub hl [2, 3, 4, 1, 0] rfl) h
  · rw [if_neg (fun z => z hq)] at h
    refine lv_aload_n hx hb d_Se_addContent_21 rfl (lv_at hl 3 rfl) ?_
    refine ob_getI (k := 4) Cx hP ck_8 rfl w_f_Se_153 d_Se_addContent_22 h (fun x22 h => ?_)
    refine lv_if_ne (tgt := 66) hx hb d_Se_addContent_25 (by decide) (fun hq => ?_) (fun hq => ?_)
    · rw [if_pos hq] at h
      exact tB_Se_addContent_66 Cx t12 H locs ls v0 v1 v2 x4 x12 hP hS (lv_sub hl [2, 3, 4, 1, 0] rfl) h
    · rw [if_neg (fun z => z hq)] at h
      refine lv_aload_n hx hb d_Se_addContent_28 rfl (lv_at hl 2 rfl) ?_
      refine lv_aload_n hx hb d_Se_addContent_29 rfl (lv_at hl 3 rfl) ?_
      refine ob_getI (k := 3) Cx hP ck_8 rfl w_f_Se_87 d_Se_addContent_30 h (fun x30 h => ?_)
      refine lv_iload_n hx hb d_Se_addContent_33 rfl (lv_at hl 4 rfl) ?_
      refine lv_iload hx hb d_Se_addContent_34 (lv_at hl 0 rfl) ?_
      refine ob_cVi (nA := 3) (As := [.int x30, .int v2, .int x12]) (rest := []) Cx hl.1 hP hS (fun o ho => c_Se_beginWatch v0 x30 v2 x12 ho) (fun o ho => g_Se_beginWatch v0 x30 v2 x12 ho) (by decide) (rfl : ob_cl[9]? = _) mv_Se_beginWatch w_m_Se_156 rfl (by decide +kernel) ⟨rfl, rfl⟩ ⟨by decide, by decide⟩ (Nat.le_of_ble_eq_true rfl) rfl d_Se_addContent_36 h (fun x36 t36 H locs h hP hS => ?_)
      refine lv_if_eq (tgt := 66) hx hb d_Se_addContent_39 (by decide) (fun hq => ?_) (fun hq => ?_)
      · rw [if_pos hq] at h
        exact tB_Se_addContent_66 Cx t36 H locs ls v0 v1 v2 x4 x12 hP hS (lv_sub hl [2, 3, 4, 1, 0] rfl) h
      · rw [if_neg hq] at h
        refine lv_aload_n hx hb d_Se_addContent_42 rfl (lv_at hl 2 rfl) ?_
        refine lv_aload_n hx hb d_Se_addContent_43 rfl (lv_at hl 2 rfl) ?_
        refine ob_getI (k := 3) Cx hP ck_9 rfl w_f_Se_160 d_Se_addContent_44 h (fun x44 h => ?_)
        refine ob_cNi (nA := 1) (As := [.int x44]) (rest := [.ref (b + v0)]) Cx hl.1 hP hS (fun o ho => c_Ob_following x44 ho) ms_Ob_following w_n_Se_163 rfl (by decide +kernel) ⟨rfl, rfl⟩ ⟨by decide, by decide⟩ (Nat.le_of_ble_eq_true rfl) rfl d_Se_addContent_47 h (fun x47 t47 H locs h hP hS => ?_)
        refine ob_putI (k := 3) Cx hP hS ck_9 rfl rfl rfl w_f_Se_160 d_Se_addContent_50 h (fun t50 H locs h hP hS => ?_)
        refine lv_aload_n hx hb d_Se_addContent_53 rfl (lv_at hl 2 rfl) ?_
        refine ob_getR (k := 8) Cx hP ck_9 rfl w_f_Se_44 d_Se_addContent_54 h (fun n54 h => ?_)
        refine lv_bipush (v := 6) hx hb d_Se_addContent_57 (by decide) ?_
        refine lv_aload_n hx hb d_Se_addContent_59 rfl (lv_at hl 2 rfl) ?_
        refine ob_getI (k := 3) Cx hP ck_9 rfl w_f_Se_160 d_Se_addContent_60 h (fun x60 h => ?_)
        refine ob_cVv (nA := 2) (As := [.int (6 : Int32), .int x60]) (rest := []) Cx hl.1 hP hS (fun o ho => c_Wr_addNumber n54 (6 : Int32) x60 ho) (fun o ho => g_Wr_addNumber n54 (6 : Int32) x60 ho) (by decide) (rfl : ob_cl[4]? = _) mv_Wr_addNumber w_m_Se_101 rfl (by decide +kernel) ⟨rfl, rfl⟩ ⟨by decide, by decide⟩ (Nat.le_of_ble_eq_true rfl) rfl d_Se_addContent_63 h (fun t63 H locs h hP hS => ?_)
        exact tB_Se_addContent_66 Cx t63 H locs ls v0 v1 v2 x4 x12 hP hS (lv_sub hl [2, 3, 4, 1, 0] rfl) h

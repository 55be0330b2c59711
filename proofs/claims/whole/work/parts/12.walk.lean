set_option maxHeartbeats 4000000 in
set_option maxRecDepth 100000 in
theorem tB_Se_tellWatchersOf_33 {p : Program} {l : Launch} {e : Env} {R : Room} {s : State} {m : MethodId} {args : Array Value} {below : List Frame} {meth : Method} {c : Code} {b : Nat} {D : va_G} {cA : Nat → ClassId} {adK adV : Nat → Nat} {out : ob_S} (Cx : ob_C p R s m args meth c cb_Se_tellWatchersOf 3 "ObservedBlocks$Server" none b D cA adK adV 4 96) {k2 : Nat → Int32 → Int32 → ob_S → Option ob_S} (hk2 : ∀ (t : ob_S) (H : Heap) (locs : List Loc) (ls : Array Slot) (v0 : Nat) (v1 : Int32) (v2 : Int32), ob_H b D cA t H → va_S (ob_A b) s.heap H locs → lv_has ls 3 [(0, .ref (b + v0)), (1, .int v1), (2, .int v2)] → k2 v0 v1 v2 t = some out → W p l e R s m args below meth c H locs 0 0 (MQ below (ob_Qv b D cA out) args s 0 0 (ob_A b)) (F0 m 2 ls [])) : ∀ (t : ob_S) (H : Heap) (locs : List Loc) (ls : Array Slot) (v0 : Nat) (v1 : Int32) (v2 : Int32), ob_H b D cA t H → va_S (ob_A b) s.heap H locs → lv_has ls 3 [(0, .ref (b + v0)), (1, .int v1), (2, .int v2)] → B_Se_tellWatchersOf_33 k2 v0 v1 v2 t = some out → W p l e R s m args below meth c H locs 0 0 (MQ below (ob_Qv b D cA out) args s 0 0 (ob_A b)) (F0 m 33 ls []) := by
  have hx := Cx.1.1
  have hb := Cx.1.2.1
  intro t H locs ls v0 v1 v2 hP hS hl h
  unfold B_Se_tellWatchersOf_33 at h
  refine lv_iinc (v := (v2 + (1 : Int32))) (lv' := [(2, .int (v2 + (1 : Int32))), (0, .ref (b + v0)), (1, .int v1)]) hx hb d_Se_tellWatchersOf_33 hl (k := 2) rfl rfl (by decide) rfl (fun ls hl => ?_)
  refine lv_goto (tgt := 2) hx hb d_Se_tellWatchersOf_36 (by decide) ?_
  exact hk2 t H locs ls v0 v1 (v2 + (1 : Int32)) hP hS (lv_sub hl [1, 2, 0] rfl) h
set_option maxHeartbeats 4000000 in
set_option maxRecDepth 100000 in
theorem tB_Se_tellWatchersOf_2 {p : Program} {l : Launch} {e : Env} {R : Room} {s : State} {m : MethodId} {args : Array Value} {below : List Frame} {meth : Method} {c : Code} {b : Nat} {D : va_G} {cA : Nat → ClassId} {adK adV : Nat → Nat} {out : ob_S} (Cx : ob_C p R s m args meth c cb_Se_tellWatchersOf 3 "ObservedBlocks$Server" none b D cA adK adV 4 96) : ∀ (fu : Nat), ∀ (t : ob_S) (H : Heap) (locs : List Loc) (ls : Array Slot) (v0 : Nat) (v1 : Int32) (v2 : Int32), ob_H b D cA t H → va_S (ob_A b) s.heap H locs → lv_has ls 3 [(0, .ref (b + v0)), (1, .int v1), (2, .int v2)] → B_Se_tellWatchersOf_2 fu v0 v1 v2 t = some out → W p l e R s m args below meth c H locs 0 0 (MQ below (ob_Qv b D cA out) args s 0 0 (ob_A b)) (F0 m 2 ls []) := by
  have hx := Cx.1.1
  have hb := Cx.1.2.1
  intro fu
  induction fu with
  | zero =>
    intro t H locs ls v0 v1 v2 hP hS hl h
    cases h
  | succ fu ih =>
    intro t H locs ls v0 v1 v2 hP hS hl h
    rw [B_Se_tellWatchersOf_2] at h
    refine lv_iload_n hx hb d_Se_tellWatchersOf_2 rfl (lv_at hl 2 rfl) ?_
    refine lv_aload_n hx hb d_Se_tellWatchersOf_3 rfl (lv_at hl 0 rfl) ?_
    refine ob_getI (k := 2) Cx hP ck_9 rfl w_f_Se_183 d_Se_tellWatchersOf_4 h (fun x4 h => ?_)
    refine lv_icmp_ge (tgt := 39) hx hb d_Se_tellWatchersOf_7 (by decide) (fun hq => ?_) (fun hq => ?_)
    · rw [if_pos hq] at h
      exact ob_vret Cx hP hS d_Se_tellWatchersOf_39 h
    · rw [if_neg hq] at h
      refine lv_aload_n hx hb d_Se_tellWatchersOf_10 rfl (lv_at hl 0 rfl) ?_
      refine ob_getR (k := 5) Cx hP ck_9 rfl w_f_Se_25 d_Se_tellWatchersOf_11 h (fun n11 h => ?_)
      refine lv_iload_n hx hb d_Se_tellWatchersOf_14 rfl (lv_at hl 2 rfl) ?_
      refine ob_aldR (kd := 16) Cx hP (by decide) rfl d_Se_tellWatchersOf_15 h (fun n15 h => ?_)
      refine ob_getI (k := 2) Cx hP ck_5 rfl w_f_Se_199 d_Se_tellWatchersOf_16 h (fun x16 h => ?_)
      refine lv_iload_n hx hb d_Se_tellWatchersOf_19 rfl (lv_at hl 1 rfl) ?_
      refine lv_icmp_ne (tgt := 33) hx hb d_Se_tellWatchersOf_20 (by decide) (fun hq => ?_) (fun hq => ?_)
      · rw [if_pos hq] at h
        exact tB_Se_tellWatchersOf_33 Cx ih t H locs ls v0 v1 v2 hP hS (lv_sub hl [0, 1, 2] rfl) h
      · rw [if_neg (fun z => z hq)] at h
        refine lv_aload_n hx hb d_Se_tellWatchersOf_23 rfl (lv_at hl 0 rfl) ?_
        refine lv_aload_n hx hb d_Se_tellWatchersOf_24 rfl (lv_at hl 0 rfl) ?_
        refine ob_getR (k := 5) Cx hP ck_9 rfl w_f_Se_25 d_Se_tellWatchersOf_25 h (fun n25 h => ?_)
        refine lv_iload_n hx hb d_Se_tellWatchersOf_28 rfl (lv_at hl 2 rfl) ?_
        refine ob_aldR (kd := 16) Cx hP (by decide) rfl d_Se_tellWatchersOf_29 h (fun n29 h => ?_)
        refine ob_cVv (nA := 1) (As := [.ref (b + n29)]) (rest := []) Cx hl.1 hP hS (fun o ho => c_Se_tell v0 n29 ho) (fun o ho => g_Se_tell v0 n29 ho) (by decide) (rfl : ob_cl[9]? = _) mv_Se_tell w_m_Se_202 rfl (by decide +kernel) ⟨rfl, rfl⟩ ⟨by decide, by decide⟩ (Nat.le_of_ble_eq_true rfl) rfl d_Se_tellWatchersOf_30 h (fun t30 H locs h hP hS => ?_)
        exact tB_Se_tellWatchersOf_33 Cx ih t30 H locs ls v0 v1 v2 hP hS (lv_sub hl [0, 1, 2] rfl) h
theorem g_Se_tellWatchersOf (v0 : Nat) (v1 : Int32) {t : ob_S} {out : ob_S} (h : X_Se_tellWatchersOf v0 v1 t = some out) : v0 < ob_n t ∧ ob_k t v0 = 9 := by
  unfold X_Se_tellWatchersOf ob_this at h
  by_cases q : v0 < ob_n t ∧ ob_k t v0 = 9
  · exact q
  · rw [if_neg q] at h
    cases h
set_option maxHeartbeats 4000000 in
set_option maxRecDepth 100000 in
theorem c_Se_tellWatchersOf {l : Launch} {b : Nat} {D : va_G} {cA : Nat → ClassId} {adK adV : Nat → Nat} (v0 : Nat) (v1 : Int32) {t : ob_S} {out : ob_S} (h : X_Se_tellWatchersOf v0 v1 t = some out) : Met l y_Se_tellWatchersOf (Cond.code y_Se_tellWatchersOf cb_Se_tellWatchersOf 3 none :: ob_T) { frames := 4, cells := 0, slots := 0, locals := 96 } (ob_Pre b D cA adK adV [.ref (b + v0), .int v1] t) (ob_Qv b D cA out) 0 0 (ob_A b) := by
  refine ob_met (by decide) (Nat.le_of_ble_eq_true rfl) ?_
  intro p e R s m args below meth c ls Cx hP hS hl
  have hl : lv_has ls 3 [(0, .ref (b + v0)), (1, .int v1)] := hl
  have hx := Cx.1.1
  have hb := Cx.1.2.1
  have hg := g_Se_tellWatchersOf v0 v1 h
  unfold X_Se_tellWatchersOf ob_this at h
  rw [if_pos hg] at h
  obtain ⟨H, hH⟩ : ∃ H, H = s.heap := ⟨_, rfl⟩
  obtain ⟨locs, hL⟩ : ∃ locs : List Loc, locs = [] := ⟨_, rfl⟩
  rw [← hH] at hP
  have hS : va_S (ob_A b) s.heap H locs := by rw [hH, hL]; exact hS
  suffices hW : W p l e R s m args below meth c H locs 0 0 (MQ below (ob_Qv b D cA out) args s 0 0 (ob_A b)) (F0 m 0 ls []) by rw [hH, hL] at hW; exact hW
  refine lv_iconst (v := 0) hx hb d_Se_tellWatchersOf_0 (by decide) ?_
  refine lv_istore_n (lv' := [(2, .int (0 : Int32)), (0, .ref (b + v0)), (1, .int v1)]) hx hb d_Se_tellWatchersOf_1 rfl hl (by decide) rfl (fun ls hl => ?_)
  exact tB_Se_tellWatchersOf_2 Cx ob_fu t H locs ls v0 v1 (0 : Int32) hP hS (lv_sub hl [1, 2, 0] rfl) h
set_option maxHeartbeats 4000000 in
set_option maxRecDepth 100000 in
theorem tB_Ob_change_17 {p : Program} {l : Launch} {e : Env} {R : Room} {s : State} {m : MethodId} {args : Array Value} {below : List Frame} {meth : Method} {c : Code} {b : Nat} {D : va_G} {cA : Nat → ClassId} {adK adV : Nat → Nat} {out : (Int32 × ob_S)} (Cx : ob_C p R s m args meth c cb_Ob_change 4 "ObservedBlocks" (some .int) b D cA adK adV 5 118) : ∀ (t : ob_S) (H : Heap) (locs : List Loc) (ls : Array Slot), ob_H b D cA t H → va_S (ob_A b) s.heap H locs → lv_has ls 4 [] → B_Ob_change_17 t = some out → W p l e R s m args below meth c H locs 0 0 (MQ below (ob_Qi b D cA out) args s 0 0 (ob_A b)) (F0 m 17 ls []) := by
  have hx := Cx.1.1
  have hb := Cx.1.2.1
  intro t H locs ls  hP hS hl h
  unfold B_Ob_change_17 at h
  refine lv_iconst (v := -1) hx hb d_Ob_change_17 (by decide) ?_
  exact ob_iret Cx hP hS d_Ob_change_18 h
theorem g_Ob_change (v0 : Nat) (v1 : Int32) (v2 : Int32) (v3 : Int32) {t : ob_S} {out : (Int32 × ob_S)} (h : X_Ob_change v0 v1 v2 v3 t = some out) : v0 < ob_n t ∧ ob_k t v0 = 10 := by
  unfold X_Ob_change ob_this at h
  by_cases q : v0 < ob_n t ∧ ob_k t v0 = 10
  · exact q
  · rw [if_neg q] at h
    cases h
set_option maxHeartbeats 4000000 in
set_option maxRecDepth 100000 in
theorem c_Ob_change {l : Launch} {b : Nat} {D : va_G} {cA : Nat → ClassId} {adK adV : Nat → Nat} (v0 : Nat) (v1 : Int32) (v2 : Int32) (v3 : Int32) {t : ob_S} {out : (Int32 × ob_S)} (h : X_Ob_change v0 v1 v2 v3 t = some out) : Met l y_Ob_change (Cond.code y_Ob_change cb_Ob_change 4 (some .int) :: ob_T) { frames := 5, cells := 0, slots := 0, locals := 118 } (ob_Pre b D cA adK adV [.ref (b + v0), .int v1, .int v2, .int v3] t) (ob_Qi b D cA out) 0 0 (ob_A b) := by
  refine ob_met (by decide) (Nat.le_of_ble_eq_true rfl) ?_
  intro p e R s m args below meth c ls Cx hP hS hl
  have hl : lv_has ls 4 [(0, .ref (b + v0)), (1, .int v1), (2, .int v2), (3, .int v3)] := hl
  have hx := Cx.1.1
  have hb := Cx.1.2.1
  have hg := g_Ob_change v0 v1 v2 v3 h
  unfold X_Ob_change ob_this at h
  rw [if_pos hg] at h
  obtain ⟨H, hH⟩ : ∃ H, H = s.heap := ⟨_, rfl⟩
  obtain ⟨locs, hL⟩ : ∃ locs : List Loc, locs = [] := ⟨_, rfl⟩
  rw [← hH] at hP
  have hS : va_S (ob_A b) s.heap H locs := by rw [hH, hL]; exact hS
  suffices hW : W p l e R s m args below meth c H locs 0 0 (MQ below (ob_Qi b D cA out) args s 0 0 (ob_A b)) (F0 m 0 ls []) by rw [hH, hL] at hW; exact hW
  refine lv_iload_n hx hb d_Ob_change_0 rfl (lv_at hl 1 rfl) ?_
  refine lv_iconst (v := 3) hx hb d_Ob_change_1 (by decide) ?_
  refine ob_cSi (nA := 2) (As := [.int v1, .int (3 : Int32)]) (rest := []) Cx hl.1 hP hS (fun o ho => c_Ob_isWithin v1 (3 : Int32) ho) ms_Ob_isWithin w_m_Ob_67 rfl (by decide +kernel) ⟨rfl, rfl⟩ ⟨by decide, by decide⟩ (Nat.le_of_ble_eq_true rfl) rfl d_Ob_change_2 h (fun x2 t2 H locs h hP hS => ?_)
  refine lv_if_eq (tgt := 17) hx hb d_Ob_change_5 (by decide) (fun hq => ?_) (fun hq => ?_)
  · rw [if_pos hq] at h
    exact tB_Ob_change_17 Cx t2 H locs ls hP hS (lv_sub hl [] rfl) h
  · rw [if_neg hq] at h
    refine lv_iload_n hx hb d_Ob_change_8 rfl (lv_at hl 2 rfl) ?_
    refine lv_bipush (v := 64) hx hb d_Ob_change_9 (by decide) ?_
    refine ob_cSi (nA := 2) (As := [.int v2, .int (64 : Int32)]) (rest := []) Cx hl.1 hP hS (fun o ho => c_Ob_isWithin v2 (64 : Int32) ho) ms_Ob_isWithin w_m_Ob_67 rfl (by decide +kernel) ⟨rfl, rfl⟩ ⟨by decide, by decide⟩ (Nat.le_of_ble_eq_true rfl) rfl d_Ob_change_11 h (fun x11 t11 H locs h hP hS => ?_)
    refine lv_if_ne (tgt := 19) hx hb d_Ob_change_14 (by decide) (fun hq => ?_) (fun hq => ?_)
    · rw [if_pos hq] at h
      refine lv_aload_n hx hb d_Ob_change_19 rfl (lv_at hl 0 rfl) ?_
      refine ob_getR (k := 2) Cx hP ck_10 rfl w_f_Ob_28 d_Ob_change_20 h (fun n20 h => ?_)
      refine ob_getR (k := 0) Cx hP ck_9 rfl w_f_Ob_84 d_Ob_change_23 h (fun n23 h => ?_)
      refine lv_iload_n hx hb d_Ob_change_26 rfl (lv_at hl 1 rfl) ?_
      refine ob_aldR (kd := 14) Cx hP (by decide) rfl d_Ob_change_27 h (fun n27 h => ?_)
      refine lv_iload_n hx hb d_Ob_change_28 rfl (lv_at hl 2 rfl) ?_
      refine lv_iload_n hx hb d_Ob_change_29 rfl (lv_at hl 3 rfl) ?_
      refine ob_cVv (nA := 2) (As := [.int v2, .int v3]) (rest := []) Cx hl.1 hP hS (fun o ho => c_By_fill n27 v2 v3 ho) (fun o ho => g_By_fill n27 v2 v3 ho) (by decide) (rfl : ob_cl[0]? = _) mv_By_fill w_m_Ob_75 rfl (by decide +kernel) ⟨rfl, rfl⟩ ⟨by decide, by decide⟩ (Nat.le_of_ble_eq_true rfl) rfl d_Ob_change_30 h (fun t30 H locs h hP hS => ?_)
      refine lv_aload_n hx hb d_Ob_change_33 rfl (lv_at hl 0 rfl) ?_
      refine ob_getR (k := 2) Cx hP ck_10 rfl w_f_Ob_28 d_Ob_change_34 h (fun n34 h => ?_)
      refine lv_iload_n hx hb d_Ob_change_37 rfl (lv_at hl 1 rfl) ?_
      refine ob_cVv (nA := 1) (As := [.int v1]) (rest := []) Cx hl.1 hP hS (fun o ho => c_Se_tellWatchersOf n34 v1 ho) (fun o ho => g_Se_tellWatchersOf n34 v1 ho) (by decide) (rfl : ob_cl[9]? = _) mv_Se_tellWatchersOf w_m_Ob_88 rfl (by decide +kernel) ⟨rfl, rfl⟩ ⟨by decide, by decide⟩ (Nat.le_of_ble_eq_true rfl) rfl d_Ob_change_38 h (fun t38 H locs h hP hS => ?_)
      refine lv_iconst (v := 0) hx hb d_Ob_change_41 (by decide) ?_
      exact ob_iret Cx hP hS d_Ob_change_42 h
    · rw [if_neg (fun z => z hq)] at h
      exact tB_Ob_change_17 Cx t11 H locs ls hP hS (lv_sub hl [] rfl) h
theorem g_Pe_pass (v0 : Nat) {t : ob_S} {out : (Int32 × ob_S)} (h : X_Pe_pass v0 t = some out) : v0 < ob_n t ∧ ob_k t v0 = 3 := by
  unfold X_Pe_pass ob_this at h
  by_cases q : v0 < ob_n t ∧ ob_k t v0 = 3
  · exact q
  · rw [if_neg q] at h
    cases h
set_option maxHeartbeats 4000000 in
set_option maxRecDepth 100000 in
theorem c_Pe_pass {l : Launch} {b : Nat} {D : va_G} {cA : Nat → ClassId} {adK adV : Nat → Nat} (v0 : Nat) {t : ob_S} {out : (Int32 × ob_S)} (h : X_Pe_pass v0 t = some out) : Met l y_Pe_pass (Cond.code y_Pe_pass cb_Pe_pass 1 (some .int) :: ob_T) { frames := 0, cells := 0, slots := 0, locals := 0 } (ob_Pre b D cA adK adV [.ref (b + v0)] t) (ob_Qi b D cA out) 0 0 (ob_A b) := by
  refine ob_met (by decide) (Nat.le_of_ble_eq_true rfl) ?_
  intro p e R s m args below meth c ls Cx hP hS hl
  have hl : lv_has ls 1 [(0, .ref (b + v0))] := hl
  have hx := Cx.1.1
  have hb := Cx.1.2.1
  have hg := g_Pe_pass v0 h
  unfold X_Pe_pass ob_this at h
  rw [if_pos hg] at h
  obtain ⟨H, hH⟩ : ∃ H, H = s.heap := ⟨_, rfl⟩
  obtain ⟨locs, hL⟩ : ∃ locs : List Loc, locs = [] := ⟨_, rfl⟩
  rw [← hH] at hP
  have hS : va_S (ob_A b) s.heap H locs := by rw [hH, hL]; exact hS
  suffices hW : W p l e R s m args below meth c H locs 0 0 (MQ below (ob_Qi b D cA out) args s 0 0 (ob_A b)) (F0 m 0 ls []) by rw [hH, hL] at hW; exact hW
  refine lv_aload_n hx hb d_Pe_pass_0 rfl (lv_at hl 0 rfl) ?_
  refine ob_getI (k := 2) Cx hP ck_3 rfl w_f_Pe_20 d_Pe_pass_1 h (fun x1 h => ?_)
  refine lv_if_ne (tgt := 9) hx hb d_Pe_pass_4 (by decide) (fun hq => ?_) (fun hq => ?_)
  · rw [if_pos hq] at h
    refine lv_aload_n hx hb d_Pe_pass_9 rfl (lv_at hl 0 rfl) ?_
    refine lv_dup hx hb d_Pe_pass_10 rfl ?_
    refine ob_getI (k := 3) Cx hP ck_3 rfl w_f_Pe_32 d_Pe_pass_11 h (fun x11 h => ?_)
    refine lv_iconst (v := 1) hx hb d_Pe_pass_14 (by decide) ?_
    refine lv_isub hx hb d_Pe_pass_15 ?_
    refine ob_putI (k := 3) Cx hP hS ck_3 rfl rfl rfl w_f_Pe_32 d_Pe_pass_16 h (fun t16 H locs h hP hS => ?_)
    refine lv_aload_n hx hb d_Pe_pass_19 rfl (lv_at hl 0 rfl) ?_
    refine ob_getI (k := 3) Cx hP ck_3 rfl w_f_Pe_32 d_Pe_pass_20 h (fun x20 h => ?_)
    refine lv_if_le (tgt := 28) hx hb d_Pe_pass_23 (by decide) (fun hq => ?_) (fun hq => ?_)
    · rw [if_pos hq] at h
      refine lv_aload_n hx hb d_Pe_pass_28 rfl (lv_at hl 0 rfl) ?_
      refine ob_getI (k := 5) Cx hP ck_3 rfl w_f_Pe_38 d_Pe_pass_29 h (fun x29 h => ?_)
      refine lv_iconst (v := 3) hx hb d_Pe_pass_32 (by decide) ?_
      refine lv_icmp_ne (tgt := 43) hx hb d_Pe_pass_33 (by decide) (fun hq => ?_) (fun hq => ?_)
      · rw [if_pos hq] at h
        refine lv_aload_n hx hb d_Pe_pass_43 rfl (lv_at hl 0 rfl) ?_
        refine lv_dup hx hb d_Pe_pass_44 rfl ?_
        refine ob_getI (k := 5) Cx hP ck_3 rfl w_f_Pe_38 d_Pe_pass_45 h (fun x45 h => ?_)
        refine lv_iconst (v := 1) hx hb d_Pe_pass_48 (by decide) ?_
        refine lv_iadd hx hb d_Pe_pass_49 ?_
        refine ob_putI (k := 5) Cx hP hS ck_3 rfl rfl rfl w_f_Pe_38 d_Pe_pass_50 h (fun t50 H locs h hP hS => ?_)
        refine lv_aload_n hx hb d_Pe_pass_53 rfl (lv_at hl 0 rfl) ?_
        refine lv_dup hx hb d_Pe_pass_54 rfl ?_
        refine ob_getI (k := 4) Cx hP ck_3 rfl w_f_Pe_35 d_Pe_pass_55 h (fun x55 h => ?_)
        refine lv_iconst (v := 2) hx hb d_Pe_pass_58 (by decide) ?_
        refine lv_imul hx hb d_Pe_pass_59 ?_
        refine ob_putI (k := 4) Cx hP hS ck_3 rfl rfl rfl w_f_Pe_35 d_Pe_pass_60 h (fun t60 H locs h hP hS => ?_)
        refine lv_aload_n hx hb d_Pe_pass_63 rfl (lv_at hl 0 rfl) ?_
        refine lv_aload_n hx hb d_Pe_pass_64 rfl (lv_at hl 0 rfl) ?_
        refine ob_getI (k := 4) Cx hP ck_3 rfl w_f_Pe_35 d_Pe_pass_65 h (fun x65 h => ?_)
        refine ob_putI (k := 3) Cx hP hS ck_3 rfl rfl rfl w_f_Pe_32 d_Pe_pass_68 h (fun t68 H locs h hP hS => ?_)
        refine lv_iconst (v := 1) hx hb d_Pe_pass_71 (by decide) ?_
        exact ob_iret Cx hP hS d_Pe_pass_72 h
      · rw [if_neg (fun z => z hq)] at h
        refine lv_aload_n hx hb d_Pe_pass_36 rfl (lv_at hl 0 rfl) ?_
        refine lv_iconst (v := 0) hx hb d_Pe_pass_37 (by decide) ?_
        refine ob_putZ (k := 2) Cx hP hS ck_3 rfl rfl rfl w_f_Pe_20 d_Pe_pass_38 h (fun t38 H locs h hP hS => ?_)
        refine lv_iconst (v := 2) hx hb d_Pe_pass_41 (by decide) ?_
        exact ob_iret Cx hP hS d_Pe_pass_42 h
    · rw [if_neg hq] at h
      refine lv_iconst (v := 0) hx hb d_Pe_pass_26 (by decide) ?_
      exact ob_iret Cx hP hS d_Pe_pass_27 h
  · rw [if_neg (fun z => z hq)] at h
    refine lv_iconst (v := 0) hx hb d_Pe_pass_7 (by decide) ?_
    exact ob_iret Cx hP hS d_Pe_pass_8 h
set_option maxHeartbeats 4000000 in
set_option maxRecDepth 100000 in
theorem tB_Cl_pass_63 {p : Program} {l : Launch} {e : Env} {R : Room} {s : State} {m : MethodId} {args : Array Value} {below : List Frame} {meth : Method} {c : Code} {b : Nat} {D : va_G} {cA : Nat → ClassId} {adK adV : Nat → Nat} {out : ob_S} (Cx : ob_C p R s m args meth c cb_Cl_pass 3 "ObservedBlocks$Client" none b D cA adK adV 3 71) {k2 : Nat → Int32 → ob_S → Option ob_S} (hk2 : ∀ (t : ob_S) (H : Heap) (locs : List Loc) (ls : Array Slot) (v0 : Nat) (v1 : Int32), ob_H b D cA t H → va_S (ob_A b) s.heap H locs → lv_has ls 3 [(0, .ref (b + v0)), (1, .int v1)] → k2 v0 v1 t = some out → W p l e R s m args below meth c H locs 0 0 (MQ below (ob_Qv b D cA out) args s 0 0 (ob_A b)) (F0 m 2 ls [])) : ∀ (t : ob_S) (H : Heap) (locs : List Loc) (ls : Array Slot) (v0 : Nat) (v1 : Int32), ob_H b D cA t H → va_S (ob_A b) s.heap H locs → lv_has ls 3 [(0, .ref (b + v0)), (1, .int v1)] → B_Cl_pass_63 k2 v0 v1 t = some out → W p l e R s m args below meth c H locs 0 0 (MQ below (ob_Qv b D cA out) args s 0 0 (ob_A b)) (F0 m 63 ls []) := by
  have hx := Cx.1.1
  have hb := Cx.1.2.1
  intro t H locs ls v0 v1 hP hS hl h
  unfold B_Cl_pass_63 at h
  refine lv_iinc (v := (v1 + (1 : Int32))) (lv' := [(1, .int (v1 + (1 : Int32))), (0, .ref (b + v0))]) hx hb d_Cl_pass_63 hl (k := 1) rfl rfl (by decide) rfl (fun ls hl => ?_)
  refine lv_goto (tgt := 2) hx hb d_Cl_pass_66 (by decide) ?_
  exact hk2 t H locs ls v0 (v1 + (1 : Int32)) hP hS (lv_sub hl [1, 0] rfl) h
set_option maxHeartbeats 4000000 in
set_option maxRecDepth 100000 in
theorem tB_Cl_pass_2 {p : Program} {l : Launch} {e : Env} {R : Room} {s : State} {m : MethodId} {args : Array Value} {below : List Frame} {meth : Method} {c : Code} {b : Nat} {D : va_G} {cA : Nat → ClassId} {adK adV : Nat → Nat} {out : ob_S} (Cx : ob_C p R s m args meth c cb_Cl_pass 3 "ObservedBlocks$Client" none b D cA adK adV 3 71) : ∀ (fu : Nat), ∀ (t : ob_S) (H : Heap) (locs : List Loc) (ls : Array Slot) (v0 : Nat) (v1 : Int32), ob_H b D cA t H → va_S (ob_A b) s.heap H locs → lv_has ls 3 [(0, .ref (b + v0)), (1, .int v1)] → B_Cl_pass_2 fu v0 v1 t = some out → W p l e R s m args below meth c H locs 0 0 (MQ below (ob_Qv b D cA out) args s 0 0 (ob_A b)) (F0 m 2 ls []) := by
  have hx := Cx.1.1
  have hb := Cx.1.2.1
  intro fu
  induction fu with
  | zero =>
    intro t H locs ls v0 v1 hP hS hl h
    cases h
  | succ fu ih =>
    intro t H locs ls v0 v1 hP hS hl h
    rw [B_Cl_pass_2] at h
    refine lv_iload_n hx hb d_Cl_pass_2 rfl (lv_at hl 1 rfl) ?_
    refine lv_iconst (v := 2) hx hb d_Cl_pass_3 (by decide) ?_
    refine lv_icmp_ge (tgt := 69) hx hb d_Cl_pass_4 (by decide) (fun hq => ?_) (fun hq => ?_)
    · rw [if_pos hq] at h
      exact ob_vret Cx hP hS d_Cl_pass_69 h
    · rw [if_neg hq] at h
      refine lv_aload_n hx hb d_Cl_pass_7 rfl (lv_at hl 0 rfl) ?_
      refine ob_getR (k := 0) Cx hP ck_7 rfl w_f_Cl_11 d_Cl_pass_8 h (fun n8 h => ?_)
      refine lv_iload_n hx hb d_Cl_pass_11 rfl (lv_at hl 1 rfl) ?_
      refine ob_aldR (kd := 15) Cx hP (by decide) rfl d_Cl_pass_12 h (fun n12 h => ?_)
      refine ob_getR (k := 1) Cx hP ck_6 rfl w_f_Cl_101 d_Cl_pass_13 h (fun n13 h => ?_)
      refine ob_cVi (nA := 0) (As := []) (rest := []) Cx hl.1 hP hS (fun o ho => c_Pe_pass n13 ho) (fun o ho => g_Pe_pass n13 ho) (by decide) (rfl : ob_cl[3]? = _) mv_Pe_pass w_m_Cl_164 rfl (by decide +kernel) ⟨rfl, rfl⟩ ⟨by decide, by decide⟩ (Nat.le_of_ble_eq_true rfl) rfl d_Cl_pass_16 h (fun x16 t16 H locs h hP hS => ?_)
      refine lv_istore_n (lv' := [(2, .int x16), (0, .ref (b + v0)), (1, .int v1)]) hx hb d_Cl_pass_19 rfl hl (by decide) rfl (fun ls hl => ?_)
      refine lv_iload_n hx hb d_Cl_pass_20 rfl (lv_at hl 0 rfl) ?_
      refine lv_iconst (v := 1) hx hb d_Cl_pass_21 (by decide) ?_
      refine lv_icmp_ne (tgt := 48) hx hb d_Cl_pass_22 (by decide) (fun hq => ?_) (fun hq => ?_)
      · rw [if_pos hq] at h
        refine lv_iload_n hx hb d_Cl_pass_48 rfl (lv_at hl 0 rfl) ?_
        refine lv_iconst (v := 2) hx hb d_Cl_pass_49 (by decide) ?_
        refine lv_icmp_ne (tgt := 63) hx hb d_Cl_pass_50 (by decide) (fun hq => ?_) (fun hq => ?_)
        · rw [if_pos hq] at h
          exact tB_Cl_pass_63 Cx ih t16 H locs ls v0 v1 hP hS (lv_sub hl [1, 2] rfl) h
        · rw [if_neg (fun z => z hq)] at h
          refine lv_aload_n hx hb d_Cl_pass_53 rfl (lv_at hl 1 rfl) ?_
          refine ob_getR (k := 0) Cx hP ck_7 rfl w_f_Cl_11 d_Cl_pass_54 h (fun n54 h => ?_)
          refine lv_iload_n hx hb d_Cl_pass_57 rfl (lv_at hl 2 rfl) ?_
          refine ob_aldR (kd := 15) Cx hP (by decide) rfl d_Cl_pass_58 h (fun n58 h => ?_)
          refine lv_iconst (v := 3) hx hb d_Cl_pass_59 (by decide) ?_
          refine ob_putI (k := 2) Cx hP hS ck_6 rfl rfl rfl w_f_Cl_98 d_Cl_pass_60 h (fun t60 H locs h hP hS => ?_)
          exact tB_Cl_pass_63 Cx ih t60 H locs ls v0 v1 hP hS (lv_sub hl [1, 2] rfl) h
      · rw [if_neg (fun z => z hq)] at h
        refine lv_aload_n hx hb d_Cl_pass_25 rfl (lv_at hl 1 rfl) ?_
        refine ob_getR (k := 1) Cx hP ck_7 rfl w_f_Cl_20 d_Cl_pass_26 h (fun n26 h => ?_)
        refine lv_aload_n hx hb d_Cl_pass_29 rfl (lv_at hl 1 rfl) ?_
        refine ob_getR (k := 0) Cx hP ck_7 rfl w_f_Cl_11 d_Cl_pass_30 h (fun n30 h => ?_)
        refine lv_iload_n hx hb d_Cl_pass_33 rfl (lv_at hl 2 rfl) ?_
        refine ob_aldR (kd := 15) Cx hP (by decide) rfl d_Cl_pass_34 h (fun n34 h => ?_)
        refine ob_getR (k := 1) Cx hP ck_6 rfl w_f_Cl_101 d_Cl_pass_35 h (fun n35 h => ?_)
        refine ob_getR (k := 0) Cx hP ck_3 rfl w_f_Cl_168 d_Cl_pass_38 h (fun n38 h => ?_)
        refine lv_iconst (v := 1) hx hb d_Cl_pass_41 (by decide) ?_
        refine ob_cVv (nA := 2) (As := [.ref (b + n38), .int (1 : Int32)]) (rest := []) Cx hl.1 hP hS (fun o ho => c_Li_send n26 n38 (1 : Int32) ho) (fun o ho => g_Li_send n26 n38 (1 : Int32) ho) (by decide) (rfl : ob_cl[1]? = _) mv_Li_send w_m_Cl_117 rfl (by decide +kernel) ⟨rfl, rfl⟩ ⟨by decide, by decide⟩ (Nat.le_of_ble_eq_true rfl) rfl d_Cl_pass_42 h (fun t42 H locs h hP hS => ?_)
        refine lv_goto (tgt := 63) hx hb d_Cl_pass_45 (by decide) ?_
        exact tB_Cl_pass_63 Cx ih t42 H locs ls v0 v1 hP hS (lv_sub hl [1, 2] rfl) h
theorem g_Cl_pass (v0 : Nat) {t : ob_S} {out : ob_S} (h : X_Cl_pass v0 t = some out) : v0 < ob_n t ∧ ob_k t v0 = 7 := by
  unfold X_Cl_pass ob_this at h
  by_cases q : v0 < ob_n t ∧ ob_k t v0 = 7
  · exact q
  · rw [if_neg q] at h
    cases h
set_option maxHeartbeats 4000000 in
set_option maxRecDepth 100000 in
theorem c_Cl_pass {l : Launch} {b : Nat} {D : va_G} {cA : Nat → ClassId} {adK adV : Nat → Nat} (v0 : Nat) {t : ob_S} {out : ob_S} (h : X_Cl_pass v0 t = some out) : Met l y_Cl_pass (Cond.code y_Cl_pass cb_Cl_pass 3 none :: ob_T) { frames := 3, cells := 0, slots := 0, locals := 71 } (ob_Pre b D cA adK adV [.ref (b + v0)] t) (ob_Qv b D cA out) 0 0 (ob_A b) := by
  refine ob_met (by decide) (Nat.le_of_ble_eq_true rfl) ?_
  intro p e R s m args below meth c ls Cx hP hS hl
  have hl : lv_has ls 3 [(0, .ref (b + v0))] := hl
  have hx := Cx.1.1
  have hb := Cx.1.2.1
  have hg := g_Cl_pass v0 h
  unfold X_Cl_pass ob_this at h
  rw [if_pos hg] at h
  obtain ⟨H, hH⟩ : ∃ H, H = s.heap := ⟨_, rfl⟩
  obtain ⟨locs, hL⟩ : ∃ locs : List Loc, locs = [] := ⟨_, rfl⟩
  rw [← hH] at hP
  have hS : va_S (ob_A b) s.heap H locs := by rw [hH, hL]; exact hS
  suffices hW : W p l e R s m args below meth c H locs 0 0 (MQ below (ob_Qv b D cA out) args s 0 0 (ob_A b)) (F0 m 0 ls []) by rw [hH, hL] at hW; exact hW
  refine lv_iconst (v := 0) hx hb d_Cl_pass_0 (by decide) ?_
  refine lv_istore_n (lv' := [(1, .int (0 : Int32)), (0, .ref (b + v0))]) hx hb d_Cl_pass_1 rfl hl (by decide) rfl (fun ls hl => ?_)
  exact tB_Cl_pass_2 Cx ob_fu t H locs ls v0 (0 : Int32) hP hS (lv_sub hl [1, 0] rfl) h
set_option maxHeartbeats 4000000 in
set_option maxRecDepth 100000 in
theorem tB_Se_endWatch_29 {p : Program} {l : Launch} {e : Env} {R : Room} {s : State} {m : MethodId} {args : Array Value} {below : List Frame} {meth : Method} {c : Code} {b : Nat} {D : va_G} {cA : Nat → ClassId} {adK adV : Nat → Nat} {out : ob_S} (Cx : ob_C p R s m args meth c cb_Se_endWatch 4 "ObservedBlocks$Server" none b D cA adK adV 1 20) : ∀ (fu : Nat), ∀ (t : ob_S) (H : Heap) (locs : List Loc) (ls : Array Slot) (v0 : Nat) (v2 : Nat) (v3 : Int32), ob_H b D cA t H → va_S (ob_A b) s.heap H locs → lv_has ls 4 [(0, .ref (b + v0)), (2, .ref (b + v2)), (3, .int v3)] → B_Se_endWatch_29 fu v0 v2 v3 t = some out → W p l e R s m args below meth c H locs 0 0 (MQ below (ob_Qv b D cA out) args s 0 0 (ob_A b)) (F0 m 29 ls []) := by
  have hx := Cx.1.1
  have hb := Cx.1.2.1
  intro fu
  induction fu with
  | zero =>
    intro t H locs ls v0 v2 v3 hP hS hl h
    cases h
  | succ fu ih =>
    intro t H locs ls v0 v2 v3 hP hS hl h
    rw [B_Se_endWatch_29] at h
    refine lv_iload_n hx hb d_Se_endWatch_29 rfl (lv_at hl 2 rfl) ?_
    refine lv_aload_n hx hb d_Se_endWatch_30 rfl (lv_at hl 0 rfl) ?_
    refine ob_getI (k := 2) Cx hP ck_9 rfl w_f_Se_183 d_Se_endWatch_31 h (fun x31 h => ?_)
    refine lv_iconst (v := 1) hx hb d_Se_endWatch_34 (by decide) ?_
    refine lv_isub hx hb d_Se_endWatch_35 ?_
    refine lv_icmp_ge (tgt := 59) hx hb d_Se_endWatch_36 (by decide) (fun hq => ?_) (fun hq => ?_)
    · rw [if_pos hq] at h
      refine lv_aload_n hx hb d_Se_endWatch_59 rfl (lv_at hl 0 rfl) ?_
      refine lv_dup hx hb d_Se_endWatch_60 rfl ?_
      refine ob_getI (k := 2) Cx hP ck_9 rfl w_f_Se_183 d_Se_endWatch_61 h (fun x61 h => ?_)
      refine lv_iconst (v := 1) hx hb d_Se_endWatch_64 (by decide) ?_
      refine lv_isub hx hb d_Se_endWatch_65 ?_
      refine ob_putI (k := 2) Cx hP hS ck_9 rfl rfl rfl w_f_Se_183 d_Se_endWatch_66 h (fun t66 H locs h hP hS => ?_)
      refine lv_aload_n hx hb d_Se_endWatch_69 rfl (lv_at hl 0 rfl) ?_
      refine ob_getR (k := 5) Cx hP ck_9 rfl w_f_Se_25 d_Se_endWatch_70 h (fun n70 h => ?_)
      refine lv_aload_n hx hb d_Se_endWatch_73 rfl (lv_at hl 0 rfl) ?_
      refine ob_getI (k := 2) Cx hP ck_9 rfl w_f_Se_183 d_Se_endWatch_74 h (fun x74 h => ?_)
      refine lv_aload_n hx hb d_Se_endWatch_77 rfl (lv_at hl 1 rfl) ?_
      refine ob_astR (kd := 16) Cx hP hS (by decide) (by decide) (rfl : ob_cl[5]? = _) rfl d_Se_endWatch_78 h (fun t78 H locs h hP hS => ?_)
      exact ob_vret Cx hP hS d_Se_endWatch_79 h
    · rw [if_neg hq] at h
      refine lv_aload_n hx hb d_Se_endWatch_39 rfl (lv_at hl 0 rfl) ?_
      refine ob_getR (k := 5) Cx hP ck_9 rfl w_f_Se_25 d_Se_endWatch_40 h (fun n40 h => ?_)
      refine lv_iload_n hx hb d_Se_endWatch_43 rfl (lv_at hl 2 rfl) ?_
      refine lv_aload_n hx hb d_Se_endWatch_44 rfl (lv_at hl 0 rfl) ?_
      refine ob_getR (k := 5) Cx hP ck_9 rfl w_f_Se_25 d_Se_endWatch_45 h (fun n45 h => ?_)
      refine lv_iload_n hx hb d_Se_endWatch_48 rfl (lv_at hl 2 rfl) ?_
      refine lv_iconst (v := 1) hx hb d_Se_endWatch_49 (by decide) ?_
      refine lv_iadd hx hb d_Se_endWatch_50 ?_
      refine ob_aldR (kd := 16) Cx hP (by decide) rfl d_Se_endWatch_51 h (fun n51 h => ?_)
      refine ob_astR (kd := 16) Cx hP hS (by decide) (by decide) (rfl : ob_cl[5]? = _) rfl d_Se_endWatch_52 h (fun t52 H locs h hP hS => ?_)
      refine lv_iinc (v := (v3 + (1 : Int32))) (lv' := [(3, .int (v3 + (1 : Int32))), (0, .ref (b + v0)), (2, .ref (b + v2))]) hx hb d_Se_endWatch_53 hl (k := 2) rfl rfl (by decide) rfl (fun ls hl => ?_)
      refine lv_goto (tgt := 29) hx hb d_Se_endWatch_56 (by decide) ?_
      exact ih t52 H locs ls v0 v2 (v3 + (1 : Int32)) hP hS (lv_sub hl [1, 2, 0] rfl) h
theorem g_Se_endWatch (v0 : Nat) (v1 : Int32) {t : ob_S} {out : ob_S} (h : X_Se_endWatch v0 v1 t = some out) : v0 < ob_n t ∧ ob_k t v0 = 9 := by
  unfold X_Se_endWatch ob_this at h
  by_cases q : v0 < ob_n t ∧ ob_k t v0 = 9
  · exact q
  · rw [if_neg q] at h
    cases h
set_option maxHeartbeats 4000000 in
set_option maxRecDepth 100000 in
theorem c_Se_endWatch {l : Launch} {b : Nat} {D : va_G} {cA : Nat → ClassId} {adK adV : Nat → Nat} (v0 : Nat) (v1 : Int32) {t : ob_S} {out : ob_S} (h : X_Se_endWatch v0 v1 t = some out) : Met l y_Se_endWatch (Cond.code y_Se_endWatch cb_Se_endWatch 4 none :: ob_T) { frames := 1, cells := 0, slots := 0, locals := 20 } (ob_Pre b D cA adK adV [.ref (b + v0), .int v1] t) (ob_Qv b D cA out) 0 0 (ob_A b) := by
  refine ob_met (by decide) (Nat.le_of_ble_eq_true rfl) ?_
  intro p e R s m args below meth c ls Cx hP hS hl
  have hl : lv_has ls 4 [(0, .ref (b + v0)), (1, .int v1)] := hl
  have hx := Cx.1.1
  have hb := Cx.1.2.1
  have hg := g_Se_endWatch v0 v1 h
  unfold X_Se_endWatch ob_this at h
  rw [if_pos hg] at h
  obtain ⟨H, hH⟩ : ∃ H, H = s.heap := ⟨_, rfl⟩
  obtain ⟨locs, hL⟩ : ∃ locs : List Loc, locs = [] := ⟨_, rfl⟩
  rw [← hH] at hP
  have hS : va_S (ob_A b) s.heap H locs := by rw [hH, hL]; exact hS
  suffices hW : W p l e R s m args below meth c H locs 0 0 (MQ below (ob_Qv b D cA out) args s 0 0 (ob_A b)) (F0 m 0 ls []) by rw [hH, hL] at hW; exact hW
  refine lv_iload_n hx hb d_Se_endWatch_0 rfl (lv_at hl 1 rfl) ?_
  refine lv_if_lt (tgt := 12) hx hb d_Se_endWatch_1 (by decide) (fun hq => ?_) (fun hq => ?_)
  · rw [if_pos hq] at h
    exact ob_vret Cx hP hS d_Se_endWatch_12 h
  · rw [if_neg hq] at h
    refine lv_iload_n hx hb d_Se_endWatch_4 rfl (lv_at hl 1 rfl) ?_
    refine lv_aload_n hx hb d_Se_endWatch_5 rfl (lv_at hl 0 rfl) ?_
    refine ob_getI (k := 2) Cx hP ck_9 rfl w_f_Se_183 d_Se_endWatch_6 h (fun x6 h => ?_)
    refine lv_icmp_lt (tgt := 13) hx hb d_Se_endWatch_9 (by decide) (fun hq => ?_) (fun hq => ?_)
    · rw [if_pos hq] at h
      refine lv_aload_n hx hb d_Se_endWatch_13 rfl (lv_at hl 0 rfl) ?_
      refine ob_getR (k := 5) Cx hP ck_9 rfl w_f_Se_25 d_Se_endWatch_14 h (fun n14 h => ?_)
      refine lv_iload_n hx hb d_Se_endWatch_17 rfl (lv_at hl 1 rfl) ?_
      refine ob_aldR (kd := 16) Cx hP (by decide) rfl d_Se_endWatch_18 h (fun n18 h => ?_)
      refine lv_astore_n (lv' := [(2, .ref (b + n18)), (0, .ref (b + v0)), (1, .int v1)]) hx hb d_Se_endWatch_19 rfl hl (by decide) rfl (fun ls hl => ?_)
      refine lv_aload_n hx hb d_Se_endWatch_20 rfl (lv_at hl 0 rfl) ?_
      refine ob_getR (k := 0) Cx hP ck_5 rfl w_f_Se_190 d_Se_endWatch_21 h (fun n21 h => ?_)
      refine ob_cVv (nA := 0) (As := []) (rest := []) Cx hl.1 hP hS (fun o ho => c_Pe_stop n21 ho) (fun o ho => g_Pe_stop n21 ho) (by decide) (rfl : ob_cl[3]? = _) mv_Pe_stop w_m_Se_194 rfl (by decide +kernel) ⟨rfl, rfl⟩ ⟨by decide, by decide⟩ (Nat.le_of_ble_eq_true rfl) rfl d_Se_endWatch_24 h (fun t24 H locs h hP hS => ?_)
      refine lv_iload_n hx hb d_Se_endWatch_27 rfl (lv_at hl 2 rfl) ?_
      refine lv_istore_n (lv' := [(3, .int v1), (2, .ref (b + n18)), (0, .ref (b + v0)), (1, .int v1)]) hx hb d_Se_endWatch_28 rfl hl (by decide) rfl (fun ls hl => ?_)
      exact tB_Se_endWatch_29 Cx ob_fu t24 H locs ls v0 n18 v1 hP hS (lv_sub hl [2, 1, 0] rfl) h
    · rw [if_neg hq] at h
      exact ob_vret Cx hP hS d_Se_endWatch_12 h
set_option maxHeartbeats 4000000 in
set_option maxRecDepth 100000 in
theorem tB_Se_pass_71 {p : Program} {l : Launch} {e : Env} {R : Room} {s : State} {m : MethodId} {args : Array Value} {below : List Frame} {meth : Method} {c : Code} {b : Nat} {D : va_G} {cA : Nat → ClassId} {adK adV : Nat → Nat} {out : ob_S} (Cx : ob_C p R s m args meth c cb_Se_pass 4 "ObservedBlocks$Server" none b D cA adK adV 3 71) {k4 : Nat → Int32 → Int32 → ob_S → Option ob_S} (hk4 : ∀ (t : ob_S) (H : Heap) (locs : List Loc) (ls : Array Slot) (v0 : Nat) (v1 : Int32) (v2 : Int32), ob_H b D cA t H → va_S (ob_A b) s.heap H locs → lv_has ls 4 [(0, .ref (b + v0)), (1, .int v1), (2, .int v2)] → k4 v0 v1 v2 t = some out → W p l e R s m args below meth c H locs 0 0 (MQ below (ob_Qv b D cA out) args s 0 0 (ob_A b)) (F0 m 4 ls [])) : ∀ (t : ob_S) (H : Heap) (locs : List Loc) (ls : Array Slot) (v0 : Nat) (v1 : Int32) (v2 : Int32), ob_H b D cA t H → va_S (ob_A b) s.heap H locs → lv_has ls 4 [(0, .ref (b + v0)), (1, .int v1), (2, .int v2)] → B_Se_pass_71 k4 v0 v1 v2 t = some out → W p l e R s m args below meth c H locs 0 0 (MQ below (ob_Qv b D cA out) args s 0 0 (ob_A b)) (F0 m 71 ls []) := by
  have hx := Cx.1.1
  have hb := Cx.1.2.1
  intro t H locs ls v0 v1 v2 hP hS hl h
  unfold B_Se_pass_71 at h
  refine lv_iinc (v := (v2 + (1 : Int32))) (lv' := [(2, .int (v2 + (1 : Int32))), (0, .ref (b + v0)), (1, .int v1)]) hx hb d_Se_pass_71 hl (k := 2) rfl rfl (by decide) rfl (fun ls hl => ?_)
  refine lv_goto (tgt := 4) hx hb d_Se_pass_74 (by decide) ?_
  exact hk4 t H locs ls v0 v1 (v2 + (1 : Int32)) hP hS (lv_sub hl [1, 2, 0] rfl) h
set_option maxHeartbeats 4000000 in
set_option maxRecDepth 100000 in
theorem tB_Se_pass_55 {p : Program} {l : Launch} {e : Env} {R : Room} {s : State} {m : MethodId} {args : Array Value} {below : List Frame} {meth : Method} {c : Code} {b : Nat} {D : va_G} {cA : Nat → ClassId} {adK adV : Nat → Nat} {out : ob_S} (Cx : ob_C p R s m args meth c cb_Se_pass 4 "ObservedBlocks$Server" none b D cA adK adV 3 71) {k4 : Nat → Int32 → Int32 → ob_S → Option ob_S} (hk4 : ∀ (t : ob_S) (H : Heap) (locs : List Loc) (ls : Array Slot) (v0 : Nat) (v1 : Int32) (v2 : Int32), ob_H b D cA t H → va_S (ob_A b) s.heap H locs → lv_has ls 4 [(0, .ref (b + v0)), (1, .int v1), (2, .int v2)] → k4 v0 v1 v2 t = some out → W p l e R s m args below meth c H locs 0 0 (MQ below (ob_Qv b D cA out) args s 0 0 (ob_A b)) (F0 m 4 ls [])) : ∀ (t : ob_S) (H : Heap) (locs : List Loc) (ls : Array Slot) (v0 : Nat) (v1 : Int32) (v2 : Int32) (v3 : Int32), ob_H b D cA t H → va_S (ob_A b) s.heap H locs → lv_has ls 4 [(0, .ref (b + v0)), (1, .int v1), (2, .int v2), (3, .int v3)] → B_Se_pass_55 k4 v0 v1 v2 v3 t = some out → W p l e R s m args below meth c H locs 0 0 (MQ below (ob_Qv b D cA out) args s 0 0 (ob_A b)) (F0 m 55 ls []) := by
  have hx := Cx.1.1
  have hb := Cx.1.2.1
  intro t H locs ls v0 v1 v2 v3 hP hS hl h
  unfold B_Se_pass_55 at h
  refine lv_iload_n hx hb d_Se_pass_55 rfl (lv_at hl 3 rfl) ?_
  refine lv_iconst (v := 2) hx hb d_Se_pass_56 (by decide) ?_
  refine lv_icmp_ne (tgt := 68) hx hb d_Se_pass_57 (by decide) (fun hq => ?_) (fun hq => ?_)
  · rw [if_pos hq] at h
    refine lv_iinc (v := (v1 + (1 : Int32))) (lv' := [(1, .int (v1 + (1 : Int32))), (0, .ref (b + v0)), (2, .int v2), (3, .int v3)]) hx hb d_Se_pass_68 hl (k := 1) rfl rfl (by decide) rfl (fun ls hl => ?_)
    exact tB_Se_pass_71 Cx hk4 t H locs ls v0 (v1 + (1 : Int32)) v2 hP hS (lv_sub hl [1, 0, 2] rfl) h
  · rw [if_neg (fun z => z hq)] at h
    refine lv_aload_n hx hb d_Se_pass_60 rfl (lv_at hl 0 rfl) ?_
    refine lv_iload_n hx hb d_Se_pass_61 rfl (lv_at hl 1 rfl) ?_
    refine ob_cVv (nA := 1) (As := [.int v1]) (rest := []) Cx hl.1 hP hS (fun o ho => c_Se_endWatch v0 v1 ho) (fun o ho => g_Se_endWatch v0 v1 ho) (by decide) (rfl : ob_cl[9]? = _) mv_Se_endWatch w_m_Se_169 rfl (by decide +kernel) ⟨rfl, rfl⟩ ⟨by decide, by decide⟩ (Nat.le_of_ble_eq_true rfl) rfl d_Se_pass_62 h (fun t62 H locs h hP hS => ?_)
    refine lv_goto (tgt := 71) hx hb d_Se_pass_65 (by decide) ?_
    exact tB_Se_pass_71 Cx hk4 t62 H locs ls v0 v1 v2 hP hS (lv_sub hl [0, 1, 2] rfl) h
set_option maxHeartbeats 4000000 in
set_option maxRecDepth 100000 in
theorem tB_Se_pass_4 {p : Program} {l : Launch} {e : Env} {R : Room} {s : State} {m : MethodId} {args : Array Value} {below : List Frame} {meth : Method} {c : Code} {b : Nat} {D : va_G} {cA : Nat → ClassId} {adK adV : Nat → Nat} {out : ob_S} (Cx : ob_C p R s m args meth c cb_Se_pass 4 "ObservedBlocks$Server" none b D cA adK adV 3 71) : ∀ (fu : Nat), ∀ (t : ob_S) (H : Heap) (locs : List Loc) (ls : Array Slot) (v0 : Nat) (v1 : Int32) (v2 : Int32), ob_H b D cA t H → va_S (ob_A b) s.heap H locs → lv_has ls 4 [(0, .ref (b + v0)), (1, .int v1), (2, .int v2)] → B_Se_pass_4 fu v0 v1 v2 t = some out → W p l e R s m args below meth c H locs 0 0 (MQ below (ob_Qv b D cA out) args s 0 0 (ob_A b)) (F0 m 4 ls []) := by
  have hx := Cx.1.1
  have hb := Cx.1.2.1
  intro fu
  induction fu with
  | zero =>
    intro t H locs ls v0 v1 v2 hP hS hl h
    cases h
  | succ fu ih =>
    intro t H locs ls v0 v1 v2 hP hS hl h
    rw [B_Se_pass_4] at h
    refine lv_iload_n hx hb d_Se_pass_4 rfl (lv_at hl 2 rfl) ?_
    refine lv_iconst (v := 2) hx hb d_Se_pass_5 (by decide) ?_
    refine lv_icmp_ge (tgt := 77) hx hb d_Se_pass_6 (by decide) (fun hq => ?_) (fun hq => ?_)
    · rw [if_pos hq] at h
      exact ob_vret Cx hP hS d_Se_pass_77 h
    · rw [if_neg hq] at h
      refine lv_iload_n hx hb d_Se_pass_9 rfl (lv_at hl 1 rfl) ?_
      refine lv_aload_n hx hb d_Se_pass_10 rfl (lv_at hl 0 rfl) ?_
      refine ob_getI (k := 2) Cx hP ck_9 rfl w_f_Se_183 d_Se_pass_11 h (fun x11 h => ?_)
      refine lv_icmp_ge (tgt := 77) hx hb d_Se_pass_14 (by decide) (fun hq => ?_) (fun hq => ?_)
      · rw [if_pos hq] at h
        exact ob_vret Cx hP hS d_Se_pass_77 h
      · rw [if_neg hq] at h
        refine lv_aload_n hx hb d_Se_pass_17 rfl (lv_at hl 0 rfl) ?_
        refine ob_getR (k := 5) Cx hP ck_9 rfl w_f_Se_25 d_Se_pass_18 h (fun n18 h => ?_)
        refine lv_iload_n hx hb d_Se_pass_21 rfl (lv_at hl 1 rfl) ?_
        refine ob_aldR (kd := 16) Cx hP (by decide) rfl d_Se_pass_22 h (fun n22 h => ?_)
        refine ob_getR (k := 0) Cx hP ck_5 rfl w_f_Se_190 d_Se_pass_23 h (fun n23 h => ?_)
        refine ob_cVi (nA := 0) (As := []) (rest := []) Cx hl.1 hP hS (fun o ho => c_Pe_pass n23 ho) (fun o ho => g_Pe_pass n23 ho) (by decide) (rfl : ob_cl[3]? = _) mv_Pe_pass w_m_Se_227 rfl (by decide +kernel) ⟨rfl, rfl⟩ ⟨by decide, by decide⟩ (Nat.le_of_ble_eq_true rfl) rfl d_Se_pass_26 h (fun x26 t26 H locs h hP hS => ?_)
        refine lv_istore_n (lv' := [(3, .int x26), (0, .ref (b + v0)), (1, .int v1), (2, .int v2)]) hx hb d_Se_pass_29 rfl hl (by decide) rfl (fun ls hl => ?_)
        refine lv_iload_n hx hb d_Se_pass_30 rfl (lv_at hl 0 rfl) ?_
        refine lv_iconst (v := 1) hx hb d_Se_pass_31 (by decide) ?_
        refine lv_icmp_ne (tgt := 55) hx hb d_Se_pass_32 (by decide) (fun hq => ?_) (fun hq => ?_)
        · rw [if_pos hq] at h
          exact tB_Se_pass_55 Cx ih t26 H locs ls v0 v1 v2 x26 hP hS (lv_sub hl [1, 2, 3, 0] rfl) h
        · rw [if_neg (fun z => z hq)] at h
          refine lv_aload_n hx hb d_Se_pass_35 rfl (lv_at hl 1 rfl) ?_
          refine ob_getR (k := 7) Cx hP ck_9 rfl w_f_Se_37 d_Se_pass_36 h (fun n36 h => ?_)
          refine lv_aload_n hx hb d_Se_pass_39 rfl (lv_at hl 1 rfl) ?_
          refine ob_getR (k := 5) Cx hP ck_9 rfl w_f_Se_25 d_Se_pass_40 h (fun n40 h => ?_)
          refine lv_iload_n hx hb d_Se_pass_43 rfl (lv_at hl 2 rfl) ?_
          refine ob_aldR (kd := 16) Cx hP (by decide) rfl d_Se_pass_44 h (fun n44 h => ?_)
          refine ob_getR (k := 0) Cx hP ck_5 rfl w_f_Se_190 d_Se_pass_45 h (fun n45 h => ?_)
          refine ob_getR (k := 0) Cx hP ck_3 rfl w_f_Se_231 d_Se_pass_48 h (fun n48 h => ?_)
          refine lv_iconst (v := 0) hx hb d_Se_pass_51 (by decide) ?_
          refine ob_cVv (nA := 2) (As := [.ref (b + n48), .int (0 : Int32)]) (rest := []) Cx hl.1 hP hS (fun o ho => c_Li_send n36 n48 (0 : Int32) ho) (fun o ho => g_Li_send n36 n48 (0 : Int32) ho) (by decide) (rfl : ob_cl[1]? = _) mv_Li_send w_m_Se_67 rfl (by decide +kernel) ⟨rfl, rfl⟩ ⟨by decide, by decide⟩ (Nat.le_of_ble_eq_true rfl) rfl d_Se_pass_52 h (fun t52 H locs h hP hS => ?_)
          exact tB_Se_pass_55 Cx ih t52 H locs ls v0 v1 v2 x26 hP hS (lv_sub hl [1, 2, 3, 0] rfl) h
theorem g_Se_pass (v0 : Nat) {t : ob_S} {out : ob_S} (h : X_Se_pass v0 t = some out) : v0 < ob_n t ∧ ob_k t v0 = 9 := by
  unfold X_Se_pass ob_this at h
  by_cases q : v0 < ob_n t ∧ ob_k t v0 = 9
  · exact q
  · rw [if_neg q] at h
    cases h
set_option maxHeartbeats 4000000 in
set_option maxRecDepth 100000 in
theorem c_Se_pass {l : Launch} {b : Nat} {D : va_G} {cA : Nat → ClassId} {adK adV : Nat → Nat} (v0 : Nat) {t : ob_S} {out : ob_S} (h : X_Se_pass v0 t = some out) : Met l y_Se_pass (Cond.code y_Se_pass cb_Se_pass 4 none :: ob_T) { frames := 3, cells := 0, slots := 0, locals := 71 } (ob_Pre b D cA adK adV [.ref (b + v0)] t) (ob_Qv b D cA out) 0 0 (ob_A b) := by
  refine ob_met (by decide) (Nat.le_of_ble_eq_true rfl) ?_
  intro p e R s m args below meth c ls Cx hP hS hl
  have hl : lv_has ls 4 [(0, .ref (b + v0))] := hl
  have hx := Cx.1.1
  have hb := Cx.1.2.1
  have hg := g_Se_pass v0 h
  unfold X_Se_pass ob_this at h
  rw [if_pos hg] at h
  obtain ⟨H, hH⟩ : ∃ H, H = s.heap := ⟨_, rfl⟩
  obtain ⟨locs, hL⟩ : ∃ locs : List Loc, locs = [] := ⟨_, rfl⟩
  rw [← hH] at hP
  have hS : va_S (ob_A b) s.heap H locs := by rw [hH, hL]; exact hS
  suffices hW : W p l e R s m args below meth c H locs 0 0 (MQ below (ob_Qv b D cA out) args s 0 0 (ob_A b)) (F0 m 0 ls []) by rw [hH, hL] at hW; exact hW
  refine lv_iconst (v := 0) hx hb d_Se_pass_0 (by decide) ?_
  refine lv_istore_n (lv' := [(1, .int (0 : Int32)), (0, .ref (b + v0))]) hx hb d_Se_pass_1 rfl hl (by decide) rfl (fun ls hl => ?_)
  refine lv_iconst (v := 0) hx hb d_Se_pass_2 (by decide) ?_
  refine lv_istore_n (lv' := [(2, .int (0 : Int32)), (1, .int (0 : Int32)), (0, .ref (b + v0))]) hx hb d_Se_pass_3 rfl hl (by decide) rfl (fun ls hl => ?_)
  exact tB_Se_pass_4 Cx ob_fu t H locs ls v0 (0 : Int32) (0 : Int32) hP hS (lv_sub hl [2, 1, 0] rfl) h
theorem g_Ob_tick (v0 : Nat) {t : ob_S} {out : (Int32 × ob_S)} (h : X_Ob_tick v0 t = some out) : v0 < ob_n t ∧ ob_k t v0 = 10 := by
  unfold X_Ob_tick ob_this at h
  by_cases q : v0 < ob_n t ∧ ob_k t v0 = 10
  · exact q
  · rw [if_neg q] at h
    cases h
set_option maxHeartbeats 4000000 in
set_option maxRecDepth 100000 in
theorem c_Ob_tick {l : Launch} {b : Nat} {D : va_G} {cA : Nat → ClassId} {adK adV : Nat → Nat} (v0 : Nat) {t : ob_S} {out : (Int32 × ob_S)} (h : X_Ob_tick v0 t = some out) : Met l y_Ob_tick (Cond.code y_Ob_tick cb_Ob_tick 1 (some .int) :: ob_T) { frames := 4, cells := 0, slots := 0, locals := 94 } (ob_Pre b D cA adK adV [.ref (b + v0)] t) (ob_Qi b D cA out) 0 0 (ob_A b) := by
  refine ob_met (by decide) (Nat.le_of_ble_eq_true rfl) ?_
  intro p e R s m args below meth c ls Cx hP hS hl
  have hl : lv_has ls 1 [(0, .ref (b + v0))] := hl
  have hx := Cx.1.1
  have hb := Cx.1.2.1
  have hg := g_Ob_tick v0 h
  unfold X_Ob_tick ob_this at h
  rw [if_pos hg] at h
  obtain ⟨H, hH⟩ : ∃ H, H = s.heap := ⟨_, rfl⟩
  obtain ⟨locs, hL⟩ : ∃ locs : List Loc, locs = [] := ⟨_, rfl⟩
  rw [← hH] at hP
  have hS : va_S (ob_A b) s.heap H locs := by rw [hH, hL]; exact hS
  suffices hW : W p l e R s m args below meth c H locs 0 0 (MQ below (ob_Qi b D cA out) args s 0 0 (ob_A b)) (F0 m 0 ls []) by rw [hH, hL] at hW; exact hW
  refine lv_aload_n hx hb d_Ob_tick_0 rfl (lv_at hl 0 rfl) ?_
  refine lv_dup hx hb d_Ob_tick_1 rfl ?_
  refine ob_getI (k := 4) Cx hP ck_10 rfl w_f_Ob_39 d_Ob_tick_2 h (fun x2 h => ?_)
  refine lv_iconst (v := 1) hx hb d_Ob_tick_5 (by decide) ?_
  refine lv_iadd hx hb d_Ob_tick_6 ?_
  refine ob_putI (k := 4) Cx hP hS ck_10 rfl rfl rfl w_f_Ob_39 d_Ob_tick_7 h (fun t7 H locs h hP hS => ?_)
  refine lv_aload_n hx hb d_Ob_tick_10 rfl (lv_at hl 0 rfl) ?_
  refine ob_getR (k := 1) Cx hP ck_10 rfl w_f_Ob_21 d_Ob_tick_11 h (fun n11 h => ?_)
  refine ob_cVv (nA := 0) (As := []) (rest := []) Cx hl.1 hP hS (fun o ho => c_Cl_pass n11 ho) (fun o ho => g_Cl_pass n11 ho) (by decide) (rfl : ob_cl[7]? = _) mv_Cl_pass w_m_Ob_92 rfl (by decide +kernel) ⟨rfl, rfl⟩ ⟨by decide, by decide⟩ (Nat.le_of_ble_eq_true rfl) rfl d_Ob_tick_14 h (fun t14 H locs h hP hS => ?_)
  refine lv_aload_n hx hb d_Ob_tick_17 rfl (lv_at hl 0 rfl) ?_
  refine ob_getR (k := 2) Cx hP ck_10 rfl w_f_Ob_28 d_Ob_tick_18 h (fun n18 h => ?_)
  refine ob_cVv (nA := 0) (As := []) (rest := []) Cx hl.1 hP hS (fun o ho => c_Se_pass n18 ho) (fun o ho => g_Se_pass n18 ho) (by decide) (rfl : ob_cl[9]? = _) mv_Se_pass w_m_Ob_95 rfl (by decide +kernel) ⟨rfl, rfl⟩ ⟨by decide, by decide⟩ (Nat.le_of_ble_eq_true rfl) rfl d_Ob_tick_21 h (fun t21 H locs h hP hS => ?_)
  refine lv_aload_n hx hb d_Ob_tick_24 rfl (lv_at hl 0 rfl) ?_
  refine ob_getI (k := 4) Cx hP ck_10 rfl w_f_Ob_39 d_Ob_tick_25 h (fun x25 h => ?_)
  exact ob_iret Cx hP hS d_Ob_tick_28 h
set_option maxHeartbeats 4000000 in
set_option maxRecDepth 100000 in
theorem tB_Li_has_16 {p : Program} {l : Launch} {e : Env} {R : Room} {s : State} {m : MethodId} {args : Array Value} {below : List Frame} {meth : Method} {c : Code} {b : Nat} {D : va_G} {cA : Nat → ClassId} {adK adV : Nat → Nat} {out : (Int32 × ob_S)} (Cx : ob_C p R s m args meth c cb_Li_has 2 "ObservedBlocks$Line" (some .boolean) b D cA adK adV 0 0) : ∀ (t : ob_S) (H : Heap) (locs : List Loc) (ls : Array Slot), ob_H b D cA t H → va_S (ob_A b) s.heap H locs → lv_has ls 2 [] → B_Li_has_16 t = some out → W p l e R s m args below meth c H locs 0 0 (MQ below (ob_Qi b D cA out) args s 0 0 (ob_A b)) (F0 m 16 ls []) := by
  have hx := Cx.1.1
  have hb := Cx.1.2.1
  intro t H locs ls  hP hS hl h
  unfold B_Li_has_16 at h
  refine lv_iconst (v := 0) hx hb d_Li_has_16 (by decide) ?_
  exact ob_zret Cx hP hS d_Li_has_17 h
theorem g_Li_has (v0 : Nat) (v1 : Int32) {t : ob_S} {out : (Int32 × ob_S)} (h : X_Li_has v0 v1 t = some out) : v0 < ob_n t ∧ ob_k t v0 = 1 := by
  unfold X_Li_has ob_this at h
  by_cases q : v0 < ob_n t ∧ ob_k t v0 = 1
  · exact q
  · rw [if_neg q] at h
    cases h
set_option maxHeartbeats 4000000 in
set_option maxRecDepth 100000 in
theorem c_Li_has {l : Launch} {b : Nat} {D : va_G} {cA : Nat → ClassId} {adK adV : Nat → Nat} (v0 : Nat) (v1 : Int32) {t : ob_S} {out : (Int32 × ob_S)} (h : X_Li_has v0 v1 t = some out) : Met l y_Li_has (Cond.code y_Li_has cb_Li_has 2 (some .boolean) :: ob_T) { frames := 0, cells := 0, slots := 0, locals := 0 } (ob_Pre b D cA adK adV [.ref (b + v0), .int v1] t) (ob_Qi b D cA out) 0 0 (ob_A b) := by
  refine ob_met (by decide) (Nat.le_of_ble_eq_true rfl) ?_
  intro p e R s m args below meth c ls Cx hP hS hl
  have hl : lv_has ls 2 [(0, .ref (b + v0)), (1, .int v1)] := hl
  have hx := Cx.1.1
  have hb := Cx.1.2.1
  have hg := g_Li_has v0 v1 h
  unfold X_Li_has ob_this at h
  rw [if_pos hg] at h
  obtain ⟨H, hH⟩ : ∃ H, H = s.heap := ⟨_, rfl⟩
  obtain ⟨locs, hL⟩ : ∃ locs : List Loc, locs = [] := ⟨_, rfl⟩
  rw [← hH] at hP
  have hS : va_S (ob_A b) s.heap H locs := by rw [hH, hL]; exact hS
  suffices hW : W p l e R s m args below meth c H locs 0 0 (MQ below (ob_Qi b D cA out) args s 0 0 (ob_A b)) (F0 m 0 ls []) by rw [hH, hL] at hW; exact hW
  refine lv_iload_n hx hb d_Li_has_0 rfl (lv_at hl 1 rfl) ?_
  refine lv_if_lt (tgt := 16) hx hb d_Li_has_1 (by decide) (fun hq => ?_) (fun hq => ?_)
  · rw [if_pos hq] at h
    exact tB_Li_has_16 Cx t H locs ls hP hS (lv_sub hl [] rfl) h
  · rw [if_neg hq] at h
    refine lv_iload_n hx hb d_Li_has_4 rfl (lv_at hl 1 rfl) ?_
    refine lv_aload_n hx hb d_Li_has_5 rfl (lv_at hl 0 rfl) ?_
    refine ob_getI (k := 2) Cx hP ck_1 rfl w_f_Li_24 d_Li_has_6 h (fun x6 h => ?_)
    refine lv_icmp_ge (tgt := 16) hx hb d_Li_has_9 (by decide) (fun hq => ?_) (fun hq => ?_)
    · rw [if_pos hq] at h
      exact tB_Li_has_16 Cx t H locs ls hP hS (lv_sub hl [] rfl) h
    · rw [if_neg hq] at h
      refine lv_iconst (v := 1) hx hb d_Li_has_12 (by decide) ?_
      refine lv_goto (tgt := 17) hx hb d_Li_has_13 (by decide) ?_
      exact ob_zret Cx hP hS d_Li_has_17 h
theorem g_Ms_forget (v0 : Nat) {t : ob_S} {out : ob_S} (h : X_Ms_forget v0 t = some out) : v0 < ob_n t ∧ ob_k t v0 = 8 := by
  unfold X_Ms_forget ob_this at h
  by_cases q : v0 < ob_n t ∧ ob_k t v0 = 8
  · exact q
  · rw [if_neg q] at h
    cases h
set_option maxHeartbeats 4000000 in
set_option maxRecDepth 100000 in
theorem c_Ms_forget {l : Launch} {b : Nat} {D : va_G} {cA : Nat → ClassId} {adK adV : Nat → Nat} (v0 : Nat) {t : ob_S} {out : ob_S} (h : X_Ms_forget v0 t = some out) : Met l y_Ms_forget (Cond.code y_Ms_forget cb_Ms_forget 1 none :: ob_T) { frames := 1, cells := 0, slots := 0, locals := 20 } (ob_Pre b D cA adK adV [.ref (b + v0)] t) (ob_Qv b D cA out) 0 0 (ob_A b) := by
  refine ob_met (by decide) (Nat.le_of_ble_eq_true rfl) ?_
  intro p e R s m args below meth c ls Cx hP hS hl
  have hl : lv_has ls 1 [(0, .ref (b + v0))] := hl
  have hx := Cx.1.1
  have hb := Cx.1.2.1
  have hg := g_Ms_forget v0 h
  unfold X_Ms_forget ob_this at h
  rw [if_pos hg] at h
  obtain ⟨H, hH⟩ : ∃ H, H = s.heap := ⟨_, rfl⟩
  obtain ⟨locs, hL⟩ : ∃ locs : List Loc, locs = [] := ⟨_, rfl⟩
  rw [← hH] at hP
  have hS : va_S (ob_A b) s.heap H locs := by rw [hH, hL]; exact hS
  suffices hW : W p l e R s m args below meth c H locs 0 0 (MQ below (ob_Qv b D cA out) args s 0 0 (ob_A b)) (F0 m 0 ls []) by rw [hH, hL] at hW; exact hW
  refine lv_aload_n hx hb d_Ms_forget_0 rfl (lv_at hl 0 rfl) ?_
  refine lv_iconst (v := -1) hx hb d_Ms_forget_1 (by decide) ?_
  refine ob_putI (k := 3) Cx hP hS ck_8 rfl rfl rfl w_f_Ms_66 d_Ms_forget_2 h (fun t2 H locs h hP hS => ?_)
  refine lv_aload_n hx hb d_Ms_forget_5 rfl (lv_at hl 0 rfl) ?_
  refine lv_iconst (v := -1) hx hb d_Ms_forget_6 (by decide) ?_
  refine ob_putI (k := 4) Cx hP hS ck_8 rfl rfl rfl w_f_Ms_79 d_Ms_forget_7 h (fun t7 H locs h hP hS => ?_)
  refine lv_aload_n hx hb d_Ms_forget_10 rfl (lv_at hl 0 rfl) ?_
  refine lv_iconst (v := -1) hx hb d_Ms_forget_11 (by decide) ?_
  refine ob_putI (k := 5) Cx hP hS ck_8 rfl rfl rfl w_f_Ms_82 d_Ms_forget_12 h (fun t12 H locs h hP hS => ?_)
  refine lv_aload_n hx hb d_Ms_forget_15 rfl (lv_at hl 0 rfl) ?_
  refine lv_iconst (v := -1) hx hb d_Ms_forget_16 (by decide) ?_
  refine ob_putI (k := 6) Cx hP hS ck_8 rfl rfl rfl w_f_Ms_85 d_Ms_forget_17 h (fun t17 H locs h hP hS => ?_)
  refine lv_aload_n hx hb d_Ms_forget_20 rfl (lv_at hl 0 rfl) ?_
  refine lv_iconst (v := 0) hx hb d_Ms_forget_21 (by decide) ?_
  refine ob_putI (k := 7) Cx hP hS ck_8 rfl rfl rfl w_f_Ms_43 d_Ms_forget_22 h (fun t22 H locs h hP hS => ?_)
  refine lv_aload_n hx hb d_Ms_forget_25 rfl (lv_at hl 0 rfl) ?_
  refine ob_getR (k := 8) Cx hP ck_8 rfl w_f_Ms_14 d_Ms_forget_26 h (fun n26 h => ?_)
  refine ob_cVv (nA := 0) (As := []) (rest := []) Cx hl.1 hP hS (fun o ho => c_By_clear n26 ho) (fun o ho => g_By_clear n26 ho) (by decide) (rfl : ob_cl[0]? = _) mv_By_clear w_m_Ms_88 rfl (by decide +kernel) ⟨rfl, rfl⟩ ⟨by decide, by decide⟩ (Nat.le_of_ble_eq_true rfl) rfl d_Ms_forget_29 h (fun t29 H locs h hP hS => ?_)
  refine lv_aload_n hx hb d_Ms_forget_32 rfl (lv_at hl 0 rfl) ?_
  refine ob_getR (k := 9) Cx hP ck_8 rfl w_f_Ms_20 d_Ms_forget_33 h (fun n33 h => ?_)
  refine ob_cVv (nA := 0) (As := []) (rest := []) Cx hl.1 hP hS (fun o ho => c_By_clear n33 ho) (fun o ho => g_By_clear n33 ho) (by decide) (rfl : ob_cl[0]? = _) mv_By_clear w_m_Ms_88 rfl (by decide +kernel) ⟨rfl, rfl⟩ ⟨by decide, by decide⟩ (Nat.le_of_ble_eq_true rfl) rfl d_Ms_forget_36 h (fun t36 H locs h hP hS => ?_)
  refine lv_aload_n hx hb d_Ms_forget_39 rfl (lv_at hl 0 rfl) ?_
  refine ob_getR (k := 10) Cx hP ck_8 rfl w_f_Ms_23 d_Ms_forget_40 h (fun n40 h => ?_)
  refine ob_cVv (nA := 0) (As := []) (rest := []) Cx hl.1 hP hS (fun o ho => c_By_clear n40 ho) (fun o ho => g_By_clear n40 ho) (by decide) (rfl : ob_cl[0]? = _) mv_By_clear w_m_Ms_88 rfl (by decide +kernel) ⟨rfl, rfl⟩ ⟨by decide, by decide⟩ (Nat.le_of_ble_eq_true rfl) rfl d_Ms_forget_43 h (fun t43 H locs h hP hS => ?_)
  refine lv_aload_n hx hb d_Ms_forget_46 rfl (lv_at hl 0 rfl) ?_
  refine lv_iconst (v := 0) hx hb d_Ms_forget_47 (by decide) ?_
  refine ob_putI (k := 12) Cx hP hS ck_8 rfl rfl rfl w_f_Ms_91 d_Ms_forget_48 h (fun t48 H locs h hP hS => ?_)
  exact ob_vret Cx hP hS d_Ms_forget_51 h
set_option maxHeartbeats 4000000 in
set_option maxRecDepth 100000 in
theorem tB_Ms_isAtOption_30 {p : Program} {l : Launch} {e : Env} {R : Room} {s : State} {m : MethodId} {args : Array Value} {below : List Frame} {meth : Method} {c : Code} {b : Nat} {D : va_G} {cA : Nat → ClassId} {adK adV : Nat → Nat} {out : (Int32 × ob_S)} (Cx : ob_C p R s m args meth c cb_Ms_isAtOption 2 "ObservedBlocks$Message" (some .boolean) b D cA adK adV 1 21) : ∀ (t : ob_S) (H : Heap) (locs : List Loc) (ls : Array Slot), ob_H b D cA t H → va_S (ob_A b) s.heap H locs → lv_has ls 2 [] → B_Ms_isAtOption_30 t = some out → W p l e R s m args below meth c H locs 0 0 (MQ below (ob_Qi b D cA out) args s 0 0 (ob_A b)) (F0 m 30 ls []) := by
  have hx := Cx.1.1
  have hb := Cx.1.2.1
  intro t H locs ls  hP hS hl h
  unfold B_Ms_isAtOption_30 at h
  refine lv_iconst (v := 0) hx hb d_Ms_isAtOption_30 (by decide) ?_
  exact ob_zret Cx hP hS d_Ms_isAtOption_31 h
theorem g_Ms_isAtOption (v0 : Nat) (v1 : Nat) {t : ob_S} {out : (Int32 × ob_S)} (h : X_Ms_isAtOption v0 v1 t = some out) : v0 < ob_n t ∧ ob_k t v0 = 8 := by
  unfold X_Ms_isAtOption ob_this at h
  by_cases q : v0 < ob_n t ∧ ob_k t v0 = 8
  · exact q
  · rw [if_neg q] at h
    cases h
set_option maxHeartbeats 4000000 in
set_option maxRecDepth 100000 in
theorem c_Ms_isAtOption {l : Launch} {b : Nat} {D : va_G} {cA : Nat → ClassId} {adK adV : Nat → Nat} (v0 : Nat) (v1 : Nat) {t : ob_S} {out : (Int32 × ob_S)} (h : X_Ms_isAtOption v0 v1 t = some out) : Met l y_Ms_isAtOption (Cond.code y_Ms_isAtOption cb_Ms_isAtOption 2 (some .boolean) :: ob_T) { frames := 1, cells := 0, slots := 0, locals := 21 } (ob_Pre b D cA adK adV [.ref (b + v0), .ref (b + v1)] t) (ob_Qi b D cA out) 0 0 (ob_A b) := by
  refine ob_met (by decide) (Nat.le_of_ble_eq_true rfl) ?_
  intro p e R s m args below meth c ls Cx hP hS hl
  have hl : lv_has ls 2 [(0, .ref (b + v0)), (1, .ref (b + v1))] := hl
  have hx := Cx.1.1
  have hb := Cx.1.2.1
  have hg := g_Ms_isAtOption v0 v1 h
  unfold X_Ms_isAtOption ob_this at h
  rw [if_pos hg] at h
  obtain ⟨H, hH⟩ : ∃ H, H = s.heap := ⟨_, rfl⟩
  obtain ⟨locs, hL⟩ : ∃ locs : List Loc, locs = [] := ⟨_, rfl⟩
  rw [← hH] at hP
  have hS : va_S (ob_A b) s.heap H locs := by rw [hH, hL]; exact hS
  suffices hW : W p l e R s m args below meth c H locs 0 0 (MQ below (ob_Qi b D cA out) args s 0 0 (ob_A b)) (F0 m 0 ls []) by rw [hH, hL] at hW; exact hW
  refine lv_aload_n hx hb d_Ms_isAtOption_0 rfl (lv_at hl 1 rfl) ?_
  refine lv_aload_n hx hb d_Ms_isAtOption_1 rfl (lv_at hl 0 rfl) ?_
  refine ob_getI (k := 11) Cx hP ck_8 rfl w_f_Ms_69 d_Ms_isAtOption_2 h (fun x2 h => ?_)
  refine ob_cVi (nA := 1) (As := [.int x2]) (rest := []) Cx hl.1 hP hS (fun o ho => c_By_has v1 x2 ho) (fun o ho => g_By_has v1 x2 ho) (by decide) (rfl : ob_cl[0]? = _) mv_By_has w_m_Ms_103 rfl (by decide +kernel) ⟨rfl, rfl⟩ ⟨by decide, by decide⟩ (Nat.le_of_ble_eq_true rfl) rfl d_Ms_isAtOption_5 h (fun x5 t5 H locs h hP hS => ?_)
  refine lv_if_eq (tgt := 30) hx hb d_Ms_isAtOption_8 (by decide) (fun hq => ?_) (fun hq => ?_)
  · rw [if_pos hq] at h
    exact tB_Ms_isAtOption_30 Cx t5 H locs ls hP hS (lv_sub hl [] rfl) h
  · rw [if_neg hq] at h
    refine lv_aload_n hx hb d_Ms_isAtOption_11 rfl (lv_at hl 1 rfl) ?_
    refine ob_getR (k := 0) Cx hP ck_0 rfl w_f_Ms_59 d_Ms_isAtOption_12 h (fun n12 h => ?_)
    refine lv_aload_n hx hb d_Ms_isAtOption_15 rfl (lv_at hl 0 rfl) ?_
    refine ob_getI (k := 11) Cx hP ck_8 rfl w_f_Ms_69 d_Ms_isAtOption_16 h (fun x16 h => ?_)
    refine ob_aldI Cx hP d_Ms_isAtOption_19 h (fun x19 h => ?_)
    refine lv_sipush (v := 255) hx hb d_Ms_isAtOption_20 (by decide) ?_
    refine lv_icmp_eq (tgt := 30) hx hb d_Ms_isAtOption_23 (by decide) (fun hq => ?_) (fun hq => ?_)
    · rw [if_pos hq] at h
      exact tB_Ms_isAtOption_30 Cx t5 H locs ls hP hS (lv_sub hl [] rfl) h
    · rw [if_neg hq] at h
      refine lv_iconst (v := 1) hx hb d_Ms_isAtOption_26 (by decide) ?_
      refine lv_goto (tgt := 31) hx hb d_Ms_isAtOption_27 (by decide) ?_
      exact ob_zret Cx hP hS d_Ms_isAtOption_31 h
set_option maxHeartbeats 4000000 in
set_option maxRecDepth 100000 in
theorem tB_Ms_readHead_54 {p : Program} {l : Launch} {e : Env} {R : Room} {s : State} {m : MethodId} {args : Array Value} {below : List Frame} {meth : Method} {c : Code} {b : Nat} {D : va_G} {cA : Nat → ClassId} {adK adV : Nat → Nat} {out : (Int32 × ob_S)} (Cx : ob_C p R s m args meth c cb_Ms_readHead 3 "ObservedBlocks$Message" (some .boolean) b D cA adK adV 1 21) : ∀ (t : ob_S) (H : Heap) (locs : List Loc) (ls : Array Slot), ob_H b D cA t H → va_S (ob_A b) s.heap H locs → lv_has ls 3 [] → B_Ms_readHead_54 t = some out → W p l e R s m args below meth c H locs 0 0 (MQ below (ob_Qi b D cA out) args s 0 0 (ob_A b)) (F0 m 54 ls []) := by
  have hx := Cx.1.1
  have hb := Cx.1.2.1
  intro t H locs ls  hP hS hl h
  unfold B_Ms_readHead_54 at h
  refine lv_iconst (v := 0) hx hb d_Ms_readHead_54 (by decide) ?_
  exact ob_zret Cx hP hS d_Ms_readHead_55 h
set_option maxHeartbeats 4000000 in
set_option maxRecDepth 100000 in
theorem tB_Ms_readHead_152 {p : Program} {l : Launch} {e : Env} {R : Room} {s : State} {m : MethodId} {args : Array Value} {below : List Frame} {meth : Method} {c : Code} {b : Nat} {D : va_G} {cA : Nat → ClassId} {adK adV : Nat → Nat} {out : (Int32 × ob_S)} (Cx : ob_C p R s m args meth c cb_Ms_readHead 3 "ObservedBlocks$Message" (some .boolean) b D cA adK adV 1 21) : ∀ (t : ob_S) (H : Heap) (locs : List Loc) (ls : Array Slot), ob_H b D cA t H → va_S (ob_A b) s.heap H locs → lv_has ls 3 [] → B_Ms_readHead_152 t = some out → W p l e R s m args below meth c H locs 0 0 (MQ below (ob_Qi b D cA out) args s 0 0 (ob_A b)) (F0 m 152 ls []) := by
  have hx := Cx.1.1
  have hb := Cx.1.2.1
  intro t H locs ls  hP hS hl h
  unfold B_Ms_readHead_152 at h
  refine lv_iconst (v := 1) hx hb d_Ms_readHead_152 (by decide) ?_
  refine lv_goto (tgt := 157) hx hb d_Ms_readHead_153 (by decide) ?_
  exact ob_zret Cx hP hS d_Ms_readHead_157 h
set_option maxHeartbeats 4000000 in
set_option maxRecDepth 100000 in
theorem tB_Ms_readHead_156 {p : Program} {l : Launch} {e : Env} {R : Room} {s : State} {m : MethodId} {args : Array Value} {below : List Frame} {meth : Method} {c : Code} {b : Nat} {D : va_G} {cA : Nat → ClassId} {adK adV : Nat → Nat} {out : (Int32 × ob_S)} (Cx : ob_C p R s m args meth c cb_Ms_readHead 3 "ObservedBlocks$Message" (some .boolean) b D cA adK adV 1 21) : ∀ (t : ob_S) (H : Heap) (locs : List Loc) (ls : Array Slot), ob_H b D cA t H → va_S (ob_A b) s.heap H locs → lv_has ls 3 [] → B_Ms_readHead_156 t = some out → W p l e R s m args below meth c H locs 0 0 (MQ below (ob_Qi b D cA out) args s 0 0 (ob_A b)) (F0 m 156 ls []) := by
  have hx := Cx.1.1
  have hb := Cx.1.2.1
  intro t H locs ls  hP hS hl h
  unfold B_Ms_readHead_156 at h
  refine lv_iconst (v := 0) hx hb d_Ms_readHead_156 (by decide) ?_
  exact ob_zret Cx hP hS d_Ms_readHead_157 h
set_option maxHeartbeats 4000000 in
set_option maxRecDepth 100000 in
theorem tB_Ms_readHead_97 {p : Program} {l : Launch} {e : Env} {R : Room} {s : State} {m : MethodId} {args : Array Value} {below : List Frame} {meth : Method} {c : Code} {b : Nat} {D : va_G} {cA : Nat → ClassId} {adK adV : Nat → Nat} {out : (Int32 × ob_S)} (Cx : ob_C p R s m args meth c cb_Ms_readHead 3 "ObservedBlocks$Message" (some .boolean) b D cA adK adV 1 21) : ∀ (t : ob_S) (H : Heap) (locs : List Loc) (ls : Array Slot) (v0 : Nat) (v1 : Nat) (v2 : Int32), ob_H b D cA t H → va_S (ob_A b) s.heap H locs → lv_has ls 3 [(0, .ref (b + v0)), (1, .ref (b + v1)), (2, .int v2)] → B_Ms_readHead_97 v0 v1 v2 t = some out → W p l e R s m args below meth c H locs 0 0 (MQ below (ob_Qi b D cA out) args s 0 0 (ob_A b)) (F0 m 97 ls []) := by
  have hx := Cx.1.1
  have hb := Cx.1.2.1
  intro t H locs ls v0 v1 v2 hP hS hl h
  unfold B_Ms_readHead_97 at h
  refine lv_aload_n hx hb d_Ms_readHead_97 rfl (lv_at hl 0 rfl) ?_
  refine lv_aload_n hx hb d_Ms_readHead_98 rfl (lv_at hl 0 rfl) ?_
  refine ob_getI (k := 11) Cx hP ck_8 rfl w_f_Ms_69 d_Ms_readHead_99 h (fun x99 h => ?_)
  refine ob_putI (k := 13) Cx hP hS ck_8 rfl rfl rfl w_f_Ms_110 d_Ms_readHead_102 h (fun t102 H locs h hP hS => ?_)
  refine lv_aload_n hx hb d_Ms_readHead_105 rfl (lv_at hl 0 rfl) ?_
  refine lv_dup hx hb d_Ms_readHead_106 rfl ?_
  refine ob_getI (k := 11) Cx hP ck_8 rfl w_f_Ms_69 d_Ms_readHead_107 h (fun x107 h => ?_)
  refine lv_aload_n hx hb d_Ms_readHead_110 rfl (lv_at hl 0 rfl) ?_
  refine ob_getI (k := 14) Cx hP ck_8 rfl w_f_Ms_107 d_Ms_readHead_111 h (fun x111 h => ?_)
  refine lv_iadd hx hb d_Ms_readHead_114 ?_
  refine ob_putI (k := 11) Cx hP hS ck_8 rfl rfl rfl w_f_Ms_69 d_Ms_readHead_115 h (fun t115 H locs h hP hS => ?_)
  refine lv_aload_n hx hb d_Ms_readHead_118 rfl (lv_at hl 0 rfl) ?_
  refine lv_dup hx hb d_Ms_readHead_119 rfl ?_
  refine ob_getI (k := 12) Cx hP ck_8 rfl w_f_Ms_91 d_Ms_readHead_120 h (fun x120 h => ?_)
  refine lv_iload_n hx hb d_Ms_readHead_123 rfl (lv_at hl 2 rfl) ?_
  refine lv_iadd hx hb d_Ms_readHead_124 ?_
  refine ob_putI (k := 12) Cx hP hS ck_8 rfl rfl rfl w_f_Ms_91 d_Ms_readHead_125 h (fun t125 H locs h hP hS => ?_)
  refine lv_aload_n hx hb d_Ms_readHead_128 rfl (lv_at hl 0 rfl) ?_
  refine ob_getI (k := 11) Cx hP ck_8 rfl w_f_Ms_69 d_Ms_readHead_129 h (fun x129 h => ?_)
  refine lv_aload_n hx hb d_Ms_readHead_132 rfl (lv_at hl 1 rfl) ?_
  refine ob_getI (k := 1) Cx hP ck_0 rfl w_f_Ms_56 d_Ms_readHead_133 h (fun x133 h => ?_)
  refine lv_icmp_gt (tgt := 156) hx hb d_Ms_readHead_136 (by decide) (fun hq => ?_) (fun hq => ?_)
  · rw [if_pos hq] at h
    exact tB_Ms_readHead_156 Cx t125 H locs ls hP hS (lv_sub hl [] rfl) h
  · rw [if_neg hq] at h
    refine lv_iload_n hx hb d_Ms_readHead_139 rfl (lv_at hl 2 rfl) ?_
    refine lv_if_gt (tgt := 152) hx hb d_Ms_readHead_140 (by decide) (fun hq => ?_) (fun hq => ?_)
    · rw [if_pos hq] at h
      exact tB_Ms_readHead_152 Cx t125 H locs ls hP hS (lv_sub hl [] rfl) h
    · rw [if_neg hq] at h
      refine lv_aload_n hx hb d_Ms_readHead_143 rfl (lv_at hl 0 rfl) ?_
      refine ob_getI (k := 12) Cx hP ck_8 rfl w_f_Ms_91 d_Ms_readHead_144 h (fun x144 h => ?_)
      refine lv_bipush (v := 11) hx hb d_Ms_readHead_147 (by decide) ?_
      refine lv_icmp_ne (tgt := 156) hx hb d_Ms_readHead_149 (by decide) (fun hq => ?_) (fun hq => ?_)
      · rw [if_pos hq] at h
        exact tB_Ms_readHead_156 Cx t125 H locs ls hP hS (lv_sub hl [] rfl) h
      · rw [if_neg (fun z => z hq)] at h
        exact tB_Ms_readHead_152 Cx t125 H locs ls hP hS (lv_sub hl [] rfl) h
theorem g_Ms_readHead (v0 : Nat) (v1 : Nat) {t : ob_S} {out : (Int32 × ob_S)} (h : X_Ms_readHead v0 v1 t = some out) : v0 < ob_n t ∧ ob_k t v0 = 8 := by
  unfold X_Ms_readHead ob_this at h
  by_cases q : v0 < ob_n t ∧ ob_k t v0 = 8
  · exact q
  · rw [if_neg q] at h
    cases h
set_option maxHeartbeats 4000000 in
set_option maxRecDepth 100000 in
theorem c_Ms_readHead {l : Launch} {b : Nat} {D : va_G} {cA : Nat → ClassId} {adK adV : Nat → Nat} (v0 : Nat) (v1 : Nat) {t : ob_S} {out : (Int32 × ob_S)} (h : X_Ms_readHead v0 v1 t = some out) : Met l y_Ms_readHead (Cond.code y_Ms_readHead cb_Ms_readHead 3 (some .boolean) :: ob_T) { frames := 1, cells := 0, slots := 0, locals := 21 } (ob_Pre b D cA adK adV [.ref (b + v0), .ref (b + v1)] t) (ob_Qi b D cA out) 0 0 (ob_A b) := by
  refine ob_met (by decide) (Nat.le_of_ble_eq_true rfl) ?_
  intro p e R s m args below meth c ls Cx hP hS hl
  have hl : lv_has ls 3 [(0, .ref (b + v0)), (1, .ref (b + v1))] := hl
  have hx := Cx.1.1
  have hb := Cx.1.2.1
  have hg := g_Ms_readHead v0 v1 h
  unfold X_Ms_readHead ob_this at h
  rw [if_pos hg] at h
  obtain ⟨H, hH⟩ : ∃ H, H = s.heap := ⟨_, rfl⟩
  obtain ⟨locs, hL⟩ : ∃ locs : List Loc, locs = [] := ⟨_, rfl⟩
  rw [← hH] at hP
  have hS : va_S (ob_A b) s.heap H locs := by rw [hH, hL]; exact hS
  suffices hW : W p l e R s m args below meth c H locs 0 0 (MQ below (ob_Qi b D cA out) args s 0 0 (ob_A b)) (F0 m 0 ls []) by rw [hH, hL] at hW; exact hW
  refine lv_aload_n hx hb d_Ms_readHead_0 rfl (lv_at hl 1 rfl) ?_
  refine ob_getR (k := 0) Cx hP ck_0 rfl w_f_Ms_59 d_Ms_readHead_1 h (fun n1 h => ?_)
  refine lv_aload_n hx hb d_Ms_readHead_4 rfl (lv_at hl 0 rfl) ?_
  refine ob_getI (k := 11) Cx hP ck_8 rfl w_f_Ms_69 d_Ms_readHead_5 h (fun x5 h => ?_)
  refine ob_aldI Cx hP d_Ms_readHead_8 h (fun x8 h => ?_)
  refine lv_bipush (v := 16) hx hb d_Ms_readHead_9 (by decide) ?_
  refine lv_idiv hx hb d_Ms_readHead_11 (by decide) ?_
  refine lv_istore_n (lv' := [(2, .int (x8 / (16 : Int32))), (0, .ref (b + v0)), (1, .ref (b + v1))]) hx hb d_Ms_readHead_12 rfl hl (by decide) rfl (fun ls hl => ?_)
  refine lv_aload_n hx hb d_Ms_readHead_13 rfl (lv_at hl 1 rfl) ?_
  refine lv_aload_n hx hb d_Ms_readHead_14 rfl (lv_at hl 2 rfl) ?_
  refine ob_getR (k := 0) Cx hP ck_0 rfl w_f_Ms_59 d_Ms_readHead_15 h (fun n15 h => ?_)
  refine lv_aload_n hx hb d_Ms_readHead_18 rfl (lv_at hl 1 rfl) ?_
  refine ob_getI (k := 11) Cx hP ck_8 rfl w_f_Ms_69 d_Ms_readHead_19 h (fun x19 h => ?_)
  refine ob_aldI Cx hP d_Ms_readHead_22 h (fun x22 h => ?_)
  refine lv_bipush (v := 16) hx hb d_Ms_readHead_23 (by decide) ?_
  refine lv_irem hx hb d_Ms_readHead_25 (by decide) ?_
  refine ob_putI (k := 14) Cx hP hS ck_8 rfl rfl rfl w_f_Ms_107 d_Ms_readHead_26 h (fun t26 H locs h hP hS => ?_)
  refine lv_aload_n hx hb d_Ms_readHead_29 rfl (lv_at hl 1 rfl) ?_
  refine lv_dup hx hb d_Ms_readHead_30 rfl ?_
  refine ob_getI (k := 11) Cx hP ck_8 rfl w_f_Ms_69 d_Ms_readHead_31 h (fun x31 h => ?_)
  refine lv_iconst (v := 1) hx hb d_Ms_readHead_34 (by decide) ?_
  refine lv_iadd hx hb d_Ms_readHead_35 ?_
  refine ob_putI (k := 11) Cx hP hS ck_8 rfl rfl rfl w_f_Ms_69 d_Ms_readHead_36 h (fun t36 H locs h hP hS => ?_)
  refine lv_iload_n hx hb d_Ms_readHead_39 rfl (lv_at hl 0 rfl) ?_
  refine lv_bipush (v := 13) hx hb d_Ms_readHead_40 (by decide) ?_
  refine lv_icmp_gt (tgt := 54) hx hb d_Ms_readHead_42 (by decide) (fun hq => ?_) (fun hq => ?_)
  · rw [if_pos hq] at h
    exact tB_Ms_readHead_54 Cx t36 H locs ls hP hS (lv_sub hl [] rfl) h
  · rw [if_neg hq] at h
    refine lv_aload_n hx hb d_Ms_readHead_45 rfl (lv_at hl 1 rfl) ?_
    refine ob_getI (k := 14) Cx hP ck_8 rfl w_f_Ms_107 d_Ms_readHead_46 h (fun x46 h => ?_)
    refine lv_bipush (v := 12) hx hb d_Ms_readHead_49 (by decide) ?_
    refine lv_icmp_le (tgt := 56) hx hb d_Ms_readHead_51 (by decide) (fun hq => ?_) (fun hq => ?_)
    · rw [if_pos hq] at h
      refine lv_iload_n hx hb d_Ms_readHead_56 rfl (lv_at hl 0 rfl) ?_
      refine lv_bipush (v := 13) hx hb d_Ms_readHead_57 (by decide) ?_
      refine lv_icmp_ne (tgt := 97) hx hb d_Ms_readHead_59 (by decide) (fun hq => ?_) (fun hq => ?_)
      · rw [if_pos hq] at h
        exact tB_Ms_readHead_97 Cx t36 H locs ls v0 v1 (x8 / (16 : Int32)) hP hS (lv_sub hl [1, 2, 0] rfl) h
      · rw [if_neg (fun z => z hq)] at h
        refine lv_aload_n hx hb d_Ms_readHead_62 rfl (lv_at hl 2 rfl) ?_
        refine lv_aload_n hx hb d_Ms_readHead_63 rfl (lv_at hl 1 rfl) ?_
        refine ob_getI (k := 11) Cx hP ck_8 rfl w_f_Ms_69 d_Ms_readHead_64 h (fun x64 h => ?_)
        refine ob_cVi (nA := 1) (As := [.int x64]) (rest := []) Cx hl.1 hP hS (fun o ho => c_By_has v1 x64 ho) (fun o ho => g_By_has v1 x64 ho) (by decide) (rfl : ob_cl[0]? = _) mv_By_has w_m_Ms_103 rfl (by decide +kernel) ⟨rfl, rfl⟩ ⟨by decide, by decide⟩ (Nat.le_of_ble_eq_true rfl) rfl d_Ms_readHead_67 h (fun x67 t67 H locs h hP hS => ?_)
        refine lv_if_ne (tgt := 75) hx hb d_Ms_readHead_70 (by decide) (fun hq => ?_) (fun hq => ?_)
        · rw [if_pos hq] at h
          refine lv_iload_n hx hb d_Ms_readHead_75 rfl (lv_at hl 0 rfl) ?_
          refine lv_aload_n hx hb d_Ms_readHead_76 rfl (lv_at hl 2 rfl) ?_
          refine ob_getR (k := 0) Cx hP ck_0 rfl w_f_Ms_59 d_Ms_readHead_77 h (fun n77 h => ?_)
          refine lv_aload_n hx hb d_Ms_readHead_80 rfl (lv_at hl 1 rfl) ?_
          refine ob_getI (k := 11) Cx hP ck_8 rfl w_f_Ms_69 d_Ms_readHead_81 h (fun x81 h => ?_)
          refine ob_aldI Cx hP d_Ms_readHead_84 h (fun x84 h => ?_)
          refine lv_iadd hx hb d_Ms_readHead_85 ?_
          refine lv_istore_n (lv' := [(2, .int ((x8 / (16 : Int32)) + x84)), (0, .ref (b + v0)), (1, .ref (b + v1))]) hx hb d_Ms_readHead_86 rfl hl (by decide) rfl (fun ls hl => ?_)
          refine lv_aload_n hx hb d_Ms_readHead_87 rfl (lv_at hl 1 rfl) ?_
          refine lv_dup hx hb d_Ms_readHead_88 rfl ?_
          refine ob_getI (k := 11) Cx hP ck_8 rfl w_f_Ms_69 d_Ms_readHead_89 h (fun x89 h => ?_)
          refine lv_iconst (v := 1) hx hb d_Ms_readHead_92 (by decide) ?_
          refine lv_iadd hx hb d_Ms_readHead_93 ?_
          refine ob_putI (k := 11) Cx hP hS ck_8 rfl rfl rfl w_f_Ms_69 d_Ms_readHead_94 h (fun t94 H locs h hP hS => ?_)
          exact tB_Ms_readHead_97 Cx t94 H locs ls v0 v1 ((x8 / (16 : Int32)) + x84) hP hS (lv_sub hl [1, 2, 0] rfl) h
        · rw [if_neg (fun z => z hq)] at h
          refine lv_iconst (v := 0) hx hb d_Ms_readHead_73 (by decide) ?_
          exact ob_zret Cx hP hS d_Ms_readHead_74 h
    · rw [if_neg hq] at h
      exact tB_Ms_readHead_54 Cx t36 H locs ls hP hS (lv_sub hl [] rfl) h

set_option maxHeartbeats 4000000 in
set_option maxRecDepth 100000 in
theorem tB_Mo_spoil_33 {p : Program} {l : Launch} {e : Env} {R : Room} {s : State} {m : MethodId} {args : Array Value} {below : List Frame} {meth : Method} {c : Code} {b : Nat} {D : va_G} {cA : Nat → ClassId} {adK adV : Nat → Nat} {out : (Int32 × ob_S)} (Cx : ob_C p R s m args meth c cb_Mo_spoil 4 "ObservedBlocksModel" (some .boolean) b D cA adK adV 1 21) : ∀ (t : ob_S) (H : Heap) (locs : List Loc) (ls : Array Slot), ob_H b D cA t H → va_S (ob_A b) s.heap H locs → lv_has ls 4 [] → B_Mo_spoil_33 t = some out → W p l e R s m args below meth c H locs 0 0 (MQ below (ob_Qi b D cA out) args s 0 0 (ob_A b)) (F0 m 33 ls []) := by
  have hx := Cx.1.1
  have hb := Cx.1.2.1
  intro t H locs ls  hP hS hl h
  unfold B_Mo_spoil_33 at h
  refine lv_iconst (v := 0) hx hb d_Mo_spoil_33 (by decide) ?_
  exact ob_zret Cx hP hS d_Mo_spoil_34 h
theorem g_Mo_spoil (v0 : Nat) (v1 : Int32) (v2 : Int32) (v3 : Int32) {t : ob_S} {out : (Int32 × ob_S)} (h : X_Mo_spoil v0 v1 v2 v3 t = some out) : v0 < ob_n t ∧ ob_k t v0 = 11 := by
  unfold X_Mo_spoil ob_this at h
  by_cases q : v0 < ob_n t ∧ ob_k t v0 = 11
  · exact q
  · rw [if_neg q] at h
    cases h
set_option maxHeartbeats 4000000 in
set_option maxRecDepth 100000 in
theorem c_Mo_spoil {l : Launch} {b : Nat} {D : va_G} {cA : Nat → ClassId} {adK adV : Nat → Nat} (v0 : Nat) (v1 : Int32) (v2 : Int32) (v3 : Int32) {t : ob_S} {out : (Int32 × ob_S)} (h : X_Mo_spoil v0 v1 v2 v3 t = some out) : Met l y_Mo_spoil (Cond.code y_Mo_spoil cb_Mo_spoil 4 (some .boolean) :: ob_T) { frames := 1, cells := 0, slots := 0, locals := 21 } (ob_Pre b D cA adK adV [.ref (b + v0), .int v1, .int v2, .int v3] t) (ob_Qi b D cA out) 0 0 (ob_A b) := by
  refine ob_met (by decide) (Nat.le_of_ble_eq_true rfl) ?_
  intro p e R s m args below meth c ls Cx hP hS hl
  have hl : lv_has ls 4 [(0, .ref (b + v0)), (1, .int v1), (2, .int v2), (3, .int v3)] := hl
  have hx := Cx.1.1
  have hb := Cx.1.2.1
  have hg := g_Mo_spoil v0 v1 v2 v3 h
  unfold X_Mo_spoil ob_this at h
  rw [if_pos hg] at h
  obtain ⟨H, hH⟩ : ∃ H, H = s.heap := ⟨_, rfl⟩
  obtain ⟨locs, hL⟩ : ∃ locs : List Loc, locs = [] := ⟨_, rfl⟩
  rw [← hH] at hP
  have hS : va_S (ob_A b) s.heap H locs := by rw [hH, hL]; exact hS
  suffices hW : W p l e R s m args below meth c H locs 0 0 (MQ below (ob_Qi b D cA out) args s 0 0 (ob_A b)) (F0 m 0 ls []) by rw [hH, hL] at hW; exact hW
  refine lv_aload_n hx hb d_Mo_spoil_0 rfl (lv_at hl 0 rfl) ?_
  refine lv_iload_n hx hb d_Mo_spoil_1 rfl (lv_at hl 1 rfl) ?_
  refine ob_cVi (nA := 1) (As := [.int v1]) (rest := []) Cx hl.1 hP hS (fun o ho => c_Mo_isDatagram v0 v1 ho) (fun o ho => g_Mo_isDatagram v0 v1 ho) (by decide) (rfl : ob_cl[11]? = _) mv_Mo_isDatagram w_m_Mo_310 rfl (by decide +kernel) ⟨rfl, rfl⟩ ⟨by decide, by decide⟩ (Nat.le_of_ble_eq_true rfl) rfl d_Mo_spoil_2 h (fun x2 t2 H locs h hP hS => ?_)
  refine lv_if_eq (tgt := 33) hx hb d_Mo_spoil_5 (by decide) (fun hq => ?_) (fun hq => ?_)
  · rw [if_pos hq] at h
    exact tB_Mo_spoil_33 Cx t2 H locs ls hP hS (lv_sub hl [] rfl) h
  · rw [if_neg hq] at h
    refine lv_iload_n hx hb d_Mo_spoil_8 rfl (lv_at hl 2 rfl) ?_
    refine lv_if_lt (tgt := 33) hx hb d_Mo_spoil_9 (by decide) (fun hq => ?_) (fun hq => ?_)
    · rw [if_pos hq] at h
      exact tB_Mo_spoil_33 Cx t2 H locs ls hP hS (lv_sub hl [] rfl) h
    · rw [if_neg hq] at h
      refine lv_iload_n hx hb d_Mo_spoil_12 rfl (lv_at hl 2 rfl) ?_
      refine lv_aload_n hx hb d_Mo_spoil_13 rfl (lv_at hl 0 rfl) ?_
      refine ob_getR (k := 1) Cx hP ck_11 rfl w_f_Mo_13 d_Mo_spoil_14 h (fun n14 h => ?_)
      refine lv_iload_n hx hb d_Mo_spoil_17 rfl (lv_at hl 1 rfl) ?_
      refine ob_aldI Cx hP d_Mo_spoil_18 h (fun x18 h => ?_)
      refine lv_icmp_ge (tgt := 33) hx hb d_Mo_spoil_19 (by decide) (fun hq => ?_) (fun hq => ?_)
      · rw [if_pos hq] at h
        exact tB_Mo_spoil_33 Cx t2 H locs ls hP hS (lv_sub hl [] rfl) h
      · rw [if_neg hq] at h
        refine lv_iload_n hx hb d_Mo_spoil_22 rfl (lv_at hl 3 rfl) ?_
        refine lv_if_lt (tgt := 33) hx hb d_Mo_spoil_23 (by decide) (fun hq => ?_) (fun hq => ?_)
        · rw [if_pos hq] at h
          exact tB_Mo_spoil_33 Cx t2 H locs ls hP hS (lv_sub hl [] rfl) h
        · rw [if_neg hq] at h
          refine lv_iload_n hx hb d_Mo_spoil_26 rfl (lv_at hl 3 rfl) ?_
          refine lv_sipush (v := 255) hx hb d_Mo_spoil_27 (by decide) ?_
          refine lv_icmp_le (tgt := 35) hx hb d_Mo_spoil_30 (by decide) (fun hq => ?_) (fun hq => ?_)
          · rw [if_pos hq] at h
            refine lv_aload_n hx hb d_Mo_spoil_35 rfl (lv_at hl 0 rfl) ?_
            refine ob_getR (k := 0) Cx hP ck_11 rfl w_f_Mo_7 d_Mo_spoil_36 h (fun n36 h => ?_)
            refine lv_bipush (v := 64) hx hb d_Mo_spoil_39 (by decide) ?_
            refine lv_iload_n hx hb d_Mo_spoil_41 rfl (lv_at hl 1 rfl) ?_
            refine lv_imul hx hb d_Mo_spoil_42 ?_
            refine lv_iload_n hx hb d_Mo_spoil_43 rfl (lv_at hl 2 rfl) ?_
            refine lv_iadd hx hb d_Mo_spoil_44 ?_
            refine lv_aload_n hx hb d_Mo_spoil_45 rfl (lv_at hl 0 rfl) ?_
            refine ob_getR (k := 0) Cx hP ck_11 rfl w_f_Mo_7 d_Mo_spoil_46 h (fun n46 h => ?_)
            refine lv_bipush (v := 64) hx hb d_Mo_spoil_49 (by decide) ?_
            refine lv_iload_n hx hb d_Mo_spoil_51 rfl (lv_at hl 1 rfl) ?_
            refine lv_imul hx hb d_Mo_spoil_52 ?_
            refine lv_iload_n hx hb d_Mo_spoil_53 rfl (lv_at hl 2 rfl) ?_
            refine lv_iadd hx hb d_Mo_spoil_54 ?_
            refine ob_aldI Cx hP d_Mo_spoil_55 h (fun x55 h => ?_)
            refine lv_iload_n hx hb d_Mo_spoil_56 rfl (lv_at hl 3 rfl) ?_
            refine lv_ixor hx hb d_Mo_spoil_57 ?_
            refine ob_astI Cx hP hS d_Mo_spoil_58 h (fun t58 H locs h hP hS => ?_)
            refine lv_iconst (v := 1) hx hb d_Mo_spoil_59 (by decide) ?_
            exact ob_zret Cx hP hS d_Mo_spoil_60 h
          · rw [if_neg hq] at h
            exact tB_Mo_spoil_33 Cx t2 H locs ls hP hS (lv_sub hl [] rfl) h
theorem g_Mo_waiting (v0 : Nat) {t : ob_S} {out : (Int32 × ob_S)} (h : X_Mo_waiting v0 t = some out) : v0 < ob_n t ∧ ob_k t v0 = 11 := by
  unfold X_Mo_waiting ob_this at h
  by_cases q : v0 < ob_n t ∧ ob_k t v0 = 11
  · exact q
  · rw [if_neg q] at h
    cases h
set_option maxHeartbeats 4000000 in
set_option maxRecDepth 100000 in
theorem c_Mo_waiting {l : Launch} {b : Nat} {D : va_G} {cA : Nat → ClassId} {adK adV : Nat → Nat} (v0 : Nat) {t : ob_S} {out : (Int32 × ob_S)} (h : X_Mo_waiting v0 t = some out) : Met l y_Mo_waiting (Cond.code y_Mo_waiting cb_Mo_waiting 1 (some .int) :: ob_T) { frames := 0, cells := 0, slots := 0, locals := 0 } (ob_Pre b D cA adK adV [.ref (b + v0)] t) (ob_Qi b D cA out) 0 0 (ob_A b) := by
  refine ob_met (by decide) (Nat.le_of_ble_eq_true rfl) ?_
  intro p e R s m args below meth c ls Cx hP hS hl
  have hl : lv_has ls 1 [(0, .ref (b + v0))] := hl
  have hx := Cx.1.1
  have hb := Cx.1.2.1
  have hg := g_Mo_waiting v0 h
  unfold X_Mo_waiting ob_this at h
  rw [if_pos hg] at h
  obtain ⟨H, hH⟩ : ∃ H, H = s.heap := ⟨_, rfl⟩
  obtain ⟨locs, hL⟩ : ∃ locs : List Loc, locs = [] := ⟨_, rfl⟩
  rw [← hH] at hP
  have hS : va_S (ob_A b) s.heap H locs := by rw [hH, hL]; exact hS
  suffices hW : W p l e R s m args below meth c H locs 0 0 (MQ below (ob_Qi b D cA out) args s 0 0 (ob_A b)) (F0 m 0 ls []) by rw [hH, hL] at hW; exact hW
  refine lv_aload_n hx hb d_Mo_waiting_0 rfl (lv_at hl 0 rfl) ?_
  refine ob_getI (k := 3) Cx hP ck_11 rfl w_f_Mo_156 d_Mo_waiting_1 h (fun x1 h => ?_)
  exact ob_iret Cx hP hS d_Mo_waiting_4 h
set_option maxHeartbeats 4000000 in
set_option maxRecDepth 100000 in
theorem tB_Mo_datagram_24 {p : Program} {l : Launch} {e : Env} {R : Room} {s : State} {m : MethodId} {args : Array Value} {below : List Frame} {meth : Method} {c : Code} {b : Nat} {D : va_G} {cA : Nat → ClassId} {adK adV : Nat → Nat} {out : (Int32 × ob_S)} (Cx : ob_C p R s m args meth c cb_Mo_datagram 3 "ObservedBlocksModel" (some .int) b D cA adK adV 1 21) : ∀ (t : ob_S) (H : Heap) (locs : List Loc) (ls : Array Slot), ob_H b D cA t H → va_S (ob_A b) s.heap H locs → lv_has ls 3 [] → B_Mo_datagram_24 t = some out → W p l e R s m args below meth c H locs 0 0 (MQ below (ob_Qi b D cA out) args s 0 0 (ob_A b)) (F0 m 24 ls []) := by
  have hx := Cx.1.1
  have hb := Cx.1.2.1
  intro t H locs ls  hP hS hl h
  unfold B_Mo_datagram_24 at h
  refine lv_iconst (v := -1) hx hb d_Mo_datagram_24 (by decide) ?_
  exact ob_iret Cx hP hS d_Mo_datagram_25 h
theorem g_Mo_datagram (v0 : Nat) (v1 : Int32) (v2 : Int32) {t : ob_S} {out : (Int32 × ob_S)} (h : X_Mo_datagram v0 v1 v2 t = some out) : v0 < ob_n t ∧ ob_k t v0 = 11 := by
  unfold X_Mo_datagram ob_this at h
  by_cases q : v0 < ob_n t ∧ ob_k t v0 = 11
  · exact q
  · rw [if_neg q] at h
    cases h
set_option maxHeartbeats 4000000 in
set_option maxRecDepth 100000 in
theorem c_Mo_datagram {l : Launch} {b : Nat} {D : va_G} {cA : Nat → ClassId} {adK adV : Nat → Nat} (v0 : Nat) (v1 : Int32) (v2 : Int32) {t : ob_S} {out : (Int32 × ob_S)} (h : X_Mo_datagram v0 v1 v2 t = some out) : Met l y_Mo_datagram (Cond.code y_Mo_datagram cb_Mo_datagram 3 (some .int) :: ob_T) { frames := 1, cells := 0, slots := 0, locals := 21 } (ob_Pre b D cA adK adV [.ref (b + v0), .int v1, .int v2] t) (ob_Qi b D cA out) 0 0 (ob_A b) := by
  refine ob_met (by decide) (Nat.le_of_ble_eq_true rfl) ?_
  intro p e R s m args below meth c ls Cx hP hS hl
  have hl : lv_has ls 3 [(0, .ref (b + v0)), (1, .int v1), (2, .int v2)] := hl
  have hx := Cx.1.1
  have hb := Cx.1.2.1
  have hg := g_Mo_datagram v0 v1 v2 h
  unfold X_Mo_datagram ob_this at h
  rw [if_pos hg] at h
  obtain ⟨H, hH⟩ : ∃ H, H = s.heap := ⟨_, rfl⟩
  obtain ⟨locs, hL⟩ : ∃ locs : List Loc, locs = [] := ⟨_, rfl⟩
  rw [← hH] at hP
  have hS : va_S (ob_A b) s.heap H locs := by rw [hH, hL]; exact hS
  suffices hW : W p l e R s m args below meth c H locs 0 0 (MQ below (ob_Qi b D cA out) args s 0 0 (ob_A b)) (F0 m 0 ls []) by rw [hH, hL] at hW; exact hW
  refine lv_aload_n hx hb d_Mo_datagram_0 rfl (lv_at hl 0 rfl) ?_
  refine lv_iload_n hx hb d_Mo_datagram_1 rfl (lv_at hl 1 rfl) ?_
  refine ob_cVi (nA := 1) (As := [.int v1]) (rest := []) Cx hl.1 hP hS (fun o ho => c_Mo_isDatagram v0 v1 ho) (fun o ho => g_Mo_isDatagram v0 v1 ho) (by decide) (rfl : ob_cl[11]? = _) mv_Mo_isDatagram w_m_Mo_310 rfl (by decide +kernel) ⟨rfl, rfl⟩ ⟨by decide, by decide⟩ (Nat.le_of_ble_eq_true rfl) rfl d_Mo_datagram_2 h (fun x2 t2 H locs h hP hS => ?_)
  refine lv_if_eq (tgt := 24) hx hb d_Mo_datagram_5 (by decide) (fun hq => ?_) (fun hq => ?_)
  · rw [if_pos hq] at h
    exact tB_Mo_datagram_24 Cx t2 H locs ls hP hS (lv_sub hl [] rfl) h
  · rw [if_neg hq] at h
    refine lv_iload_n hx hb d_Mo_datagram_8 rfl (lv_at hl 2 rfl) ?_
    refine lv_bipush (v := -2) hx hb d_Mo_datagram_9 (by decide) ?_
    refine lv_icmp_lt (tgt := 24) hx hb d_Mo_datagram_11 (by decide) (fun hq => ?_) (fun hq => ?_)
    · rw [if_pos hq] at h
      exact tB_Mo_datagram_24 Cx t2 H locs ls hP hS (lv_sub hl [] rfl) h
    · rw [if_neg hq] at h
      refine lv_iload_n hx hb d_Mo_datagram_14 rfl (lv_at hl 2 rfl) ?_
      refine lv_aload_n hx hb d_Mo_datagram_15 rfl (lv_at hl 0 rfl) ?_
      refine ob_getR (k := 1) Cx hP ck_11 rfl w_f_Mo_13 d_Mo_datagram_16 h (fun n16 h => ?_)
      refine lv_iload_n hx hb d_Mo_datagram_19 rfl (lv_at hl 1 rfl) ?_
      refine ob_aldI Cx hP d_Mo_datagram_20 h (fun x20 h => ?_)
      refine lv_icmp_lt (tgt := 26) hx hb d_Mo_datagram_21 (by decide) (fun hq => ?_) (fun hq => ?_)
      · rw [if_pos hq] at h
        refine lv_iload_n hx hb d_Mo_datagram_26 rfl (lv_at hl 2 rfl) ?_
        refine lv_iconst (v := -1) hx hb d_Mo_datagram_27 (by decide) ?_
        refine lv_icmp_ne (tgt := 40) hx hb d_Mo_datagram_28 (by decide) (fun hq => ?_) (fun hq => ?_)
        · rw [if_pos hq] at h
          refine lv_iload_n hx hb d_Mo_datagram_40 rfl (lv_at hl 2 rfl) ?_
          refine lv_bipush (v := -2) hx hb d_Mo_datagram_41 (by decide) ?_
          refine lv_icmp_ne (tgt := 55) hx hb d_Mo_datagram_43 (by decide) (fun hq => ?_) (fun hq => ?_)
          · rw [if_pos hq] at h
            refine lv_aload_n hx hb d_Mo_datagram_55 rfl (lv_at hl 0 rfl) ?_
            refine ob_getR (k := 0) Cx hP ck_11 rfl w_f_Mo_7 d_Mo_datagram_56 h (fun n56 h => ?_)
            refine lv_bipush (v := 64) hx hb d_Mo_datagram_59 (by decide) ?_
            refine lv_iload_n hx hb d_Mo_datagram_61 rfl (lv_at hl 1 rfl) ?_
            refine lv_imul hx hb d_Mo_datagram_62 ?_
            refine lv_iload_n hx hb d_Mo_datagram_63 rfl (lv_at hl 2 rfl) ?_
            refine lv_iadd hx hb d_Mo_datagram_64 ?_
            refine ob_aldI Cx hP d_Mo_datagram_65 h (fun x65 h => ?_)
            exact ob_iret Cx hP hS d_Mo_datagram_66 h
          · rw [if_neg (fun z => z hq)] at h
            refine lv_aload_n hx hb d_Mo_datagram_46 rfl (lv_at hl 0 rfl) ?_
            refine ob_getR (k := 2) Cx hP ck_11 rfl w_f_Mo_16 d_Mo_datagram_47 h (fun n47 h => ?_)
            refine lv_iload_n hx hb d_Mo_datagram_50 rfl (lv_at hl 1 rfl) ?_
            refine ob_aldI Cx hP d_Mo_datagram_51 h (fun x51 h => ?_)
            refine lv_goto (tgt := 66) hx hb d_Mo_datagram_52 (by decide) ?_
            exact ob_iret Cx hP hS d_Mo_datagram_66 h
        · rw [if_neg (fun z => z hq)] at h
          refine lv_aload_n hx hb d_Mo_datagram_31 rfl (lv_at hl 0 rfl) ?_
          refine ob_getR (k := 1) Cx hP ck_11 rfl w_f_Mo_13 d_Mo_datagram_32 h (fun n32 h => ?_)
          refine lv_iload_n hx hb d_Mo_datagram_35 rfl (lv_at hl 1 rfl) ?_
          refine ob_aldI Cx hP d_Mo_datagram_36 h (fun x36 h => ?_)
          refine lv_goto (tgt := 66) hx hb d_Mo_datagram_37 (by decide) ?_
          exact ob_iret Cx hP hS d_Mo_datagram_66 h
      · rw [if_neg hq] at h
        exact tB_Mo_datagram_24 Cx t2 H locs ls hP hS (lv_sub hl [] rfl) h
set_option maxHeartbeats 4000000 in
set_option maxRecDepth 100000 in
theorem tB_Mo_slot_17 {p : Program} {l : Launch} {e : Env} {R : Room} {s : State} {m : MethodId} {args : Array Value} {below : List Frame} {meth : Method} {c : Code} {b : Nat} {D : va_G} {cA : Nat → ClassId} {adK adV : Nat → Nat} {out : (Int32 × ob_S)} (Cx : ob_C p R s m args meth c cb_Mo_slot 3 "ObservedBlocksModel" (some .int) b D cA adK adV 1 20) : ∀ (t : ob_S) (H : Heap) (locs : List Loc) (ls : Array Slot), ob_H b D cA t H → va_S (ob_A b) s.heap H locs → lv_has ls 3 [] → B_Mo_slot_17 t = some out → W p l e R s m args below meth c H locs 0 0 (MQ below (ob_Qi b D cA out) args s 0 0 (ob_A b)) (F0 m 17 ls []) := by
  have hx := Cx.1.1
  have hb := Cx.1.2.1
  intro t H locs ls  hP hS hl h
  unfold B_Mo_slot_17 at h
  refine lv_iconst (v := -1) hx hb d_Mo_slot_17 (by decide) ?_
  exact ob_iret Cx hP hS d_Mo_slot_18 h
theorem g_Mo_slot (v0 : Nat) (v1 : Int32) (v2 : Int32) {t : ob_S} {out : (Int32 × ob_S)} (h : X_Mo_slot v0 v1 v2 t = some out) : v0 < ob_n t ∧ ob_k t v0 = 11 := by
  unfold X_Mo_slot ob_this at h
  by_cases q : v0 < ob_n t ∧ ob_k t v0 = 11
  · exact q
  · rw [if_neg q] at h
    cases h
set_option maxHeartbeats 4000000 in
set_option maxRecDepth 100000 in
theorem c_Mo_slot {l : Launch} {b : Nat} {D : va_G} {cA : Nat → ClassId} {adK adV : Nat → Nat} (v0 : Nat) (v1 : Int32) (v2 : Int32) {t : ob_S} {out : (Int32 × ob_S)} (h : X_Mo_slot v0 v1 v2 t = some out) : Met l y_Mo_slot (Cond.code y_Mo_slot cb_Mo_slot 3 (some .int) :: ob_T) { frames := 1, cells := 0, slots := 0, locals := 20 } (ob_Pre b D cA adK adV [.ref (b + v0), .int v1, .int v2] t) (ob_Qi b D cA out) 0 0 (ob_A b) := by
  refine ob_met (by decide) (Nat.le_of_ble_eq_true rfl) ?_
  intro p e R s m args below meth c ls Cx hP hS hl
  have hl : lv_has ls 3 [(0, .ref (b + v0)), (1, .int v1), (2, .int v2)] := hl
  have hx := Cx.1.1
  have hb := Cx.1.2.1
  have hg := g_Mo_slot v0 v1 v2 h
  unfold X_Mo_slot ob_this at h
  rw [if_pos hg] at h
  obtain ⟨H, hH⟩ : ∃ H, H = s.heap := ⟨_, rfl⟩
  obtain ⟨locs, hL⟩ : ∃ locs : List Loc, locs = [] := ⟨_, rfl⟩
  rw [← hH] at hP
  have hS : va_S (ob_A b) s.heap H locs := by rw [hH, hL]; exact hS
  suffices hW : W p l e R s m args below meth c H locs 0 0 (MQ below (ob_Qi b D cA out) args s 0 0 (ob_A b)) (F0 m 0 ls []) by rw [hH, hL] at hW; exact hW
  refine lv_iload_n hx hb d_Mo_slot_0 rfl (lv_at hl 1 rfl) ?_
  refine ob_cSi (nA := 1) (As := [.int v1]) (rest := []) Cx hl.1 hP hS (fun o ho => c_Mo_isSlot v1 ho) ms_Mo_isSlot w_m_Mo_297 rfl (by decide +kernel) ⟨rfl, rfl⟩ ⟨by decide, by decide⟩ (Nat.le_of_ble_eq_true rfl) rfl d_Mo_slot_1 h (fun x1 t1 H locs h hP hS => ?_)
  refine lv_if_eq (tgt := 17) hx hb d_Mo_slot_4 (by decide) (fun hq => ?_) (fun hq => ?_)
  · rw [if_pos hq] at h
    exact tB_Mo_slot_17 Cx t1 H locs ls hP hS (lv_sub hl [] rfl) h
  · rw [if_neg hq] at h
    refine lv_iload_n hx hb d_Mo_slot_7 rfl (lv_at hl 2 rfl) ?_
    refine lv_if_lt (tgt := 17) hx hb d_Mo_slot_8 (by decide) (fun hq => ?_) (fun hq => ?_)
    · rw [if_pos hq] at h
      exact tB_Mo_slot_17 Cx t1 H locs ls hP hS (lv_sub hl [] rfl) h
    · rw [if_neg hq] at h
      refine lv_iload_n hx hb d_Mo_slot_11 rfl (lv_at hl 2 rfl) ?_
      refine lv_bipush (v := 6) hx hb d_Mo_slot_12 (by decide) ?_
      refine lv_icmp_le (tgt := 19) hx hb d_Mo_slot_14 (by decide) (fun hq => ?_) (fun hq => ?_)
      · rw [if_pos hq] at h
        refine lv_aload_n hx hb d_Mo_slot_19 rfl (lv_at hl 0 rfl) ?_
        refine ob_getR (k := 14) Cx hP ck_11 rfl w_f_Mo_48 d_Mo_slot_20 h (fun n20 h => ?_)
        refine lv_iload_n hx hb d_Mo_slot_23 rfl (lv_at hl 1 rfl) ?_
        refine ob_aldI Cx hP d_Mo_slot_24 h (fun x24 h => ?_)
        refine lv_if_ne (tgt := 30) hx hb d_Mo_slot_25 (by decide) (fun hq => ?_) (fun hq => ?_)
        · rw [if_pos hq] at h
          refine lv_iload_n hx hb d_Mo_slot_30 rfl (lv_at hl 2 rfl) ?_
          by_cases hc31_0 : v2 = (0 : Int32)
          · rw [if_pos hc31_0] at h
            refine lv_tableIn (tgt := 68) (off := 37) hx hb d_Mo_slot_31 (by rw [hc31_0]; decide) (by rw [hc31_0]; decide) (by rw [hc31_0]; decide) (by decide) ?_
            refine lv_aload_n hx hb d_Mo_slot_68 rfl (lv_at hl 0 rfl) ?_
            refine ob_getR (k := 14) Cx hP ck_11 rfl w_f_Mo_48 d_Mo_slot_69 h (fun n69 h => ?_)
            refine lv_iload_n hx hb d_Mo_slot_72 rfl (lv_at hl 1 rfl) ?_
            refine ob_aldI Cx hP d_Mo_slot_73 h (fun x73 h => ?_)
            exact ob_iret Cx hP hS d_Mo_slot_74 h
          · rw [if_neg hc31_0] at h
            by_cases hc31_1 : v2 = (1 : Int32)
            · rw [if_pos hc31_1] at h
              refine lv_tableIn (tgt := 75) (off := 44) hx hb d_Mo_slot_31 (by rw [hc31_1]; decide) (by rw [hc31_1]; decide) (by rw [hc31_1]; decide) (by decide) ?_
              refine lv_aload_n hx hb d_Mo_slot_75 rfl (lv_at hl 0 rfl) ?_
              refine ob_getR (k := 16) Cx hP ck_11 rfl w_f_Mo_54 d_Mo_slot_76 h (fun n76 h => ?_)
              refine lv_iload_n hx hb d_Mo_slot_79 rfl (lv_at hl 1 rfl) ?_
              refine ob_aldI Cx hP d_Mo_slot_80 h (fun x80 h => ?_)
              exact ob_iret Cx hP hS d_Mo_slot_81 h
            · rw [if_neg hc31_1] at h
              by_cases hc31_2 : v2 = (2 : Int32)
              · rw [if_pos hc31_2] at h
                refine lv_tableIn (tgt := 82) (off := 51) hx hb d_Mo_slot_31 (by rw [hc31_2]; decide) (by rw [hc31_2]; decide) (by rw [hc31_2]; decide) (by decide) ?_
                refine lv_aload_n hx hb d_Mo_slot_82 rfl (lv_at hl 0 rfl) ?_
                refine ob_getR (k := 19) Cx hP ck_11 rfl w_f_Mo_63 d_Mo_slot_83 h (fun n83 h => ?_)
                refine lv_iload_n hx hb d_Mo_slot_86 rfl (lv_at hl 1 rfl) ?_
                refine ob_aldI Cx hP d_Mo_slot_87 h (fun x87 h => ?_)
                exact ob_iret Cx hP hS d_Mo_slot_88 h
              · rw [if_neg hc31_2] at h
                by_cases hc31_3 : v2 = (3 : Int32)
                · rw [if_pos hc31_3] at h
                  refine lv_tableIn (tgt := 89) (off := 58) hx hb d_Mo_slot_31 (by rw [hc31_3]; decide) (by rw [hc31_3]; decide) (by rw [hc31_3]; decide) (by decide) ?_
                  refine lv_aload_n hx hb d_Mo_slot_89 rfl (lv_at hl 0 rfl) ?_
                  refine ob_getR (k := 27) Cx hP ck_11 rfl w_f_Mo_87 d_Mo_slot_90 h (fun n90 h => ?_)
                  refine lv_iload_n hx hb d_Mo_slot_93 rfl (lv_at hl 1 rfl) ?_
                  refine ob_aldI Cx hP d_Mo_slot_94 h (fun x94 h => ?_)
                  exact ob_iret Cx hP hS d_Mo_slot_95 h
                · rw [if_neg hc31_3] at h
                  by_cases hc31_4 : v2 = (4 : Int32)
                  · rw [if_pos hc31_4] at h
                    refine lv_tableIn (tgt := 96) (off := 65) hx hb d_Mo_slot_31 (by rw [hc31_4]; decide) (by rw [hc31_4]; decide) (by rw [hc31_4]; decide) (by decide) ?_
                    refine lv_aload_n hx hb d_Mo_slot_96 rfl (lv_at hl 0 rfl) ?_
                    refine ob_getR (k := 22) Cx hP ck_11 rfl w_f_Mo_72 d_Mo_slot_97 h (fun n97 h => ?_)
                    refine lv_iload_n hx hb d_Mo_slot_100 rfl (lv_at hl 1 rfl) ?_
                    refine ob_aldZ Cx hP d_Mo_slot_101 h (fun x101 h => ?_)
                    refine lv_if_eq (tgt := 109) hx hb d_Mo_slot_102 (by decide) (fun hq => ?_) (fun hq => ?_)
                    · rw [if_pos hq] at h
                      refine lv_iconst (v := 0) hx hb d_Mo_slot_109 (by decide) ?_
                      exact ob_iret Cx hP hS d_Mo_slot_110 h
                    · rw [if_neg hq] at h
                      refine lv_iconst (v := 1) hx hb d_Mo_slot_105 (by decide) ?_
                      refine lv_goto (tgt := 110) hx hb d_Mo_slot_106 (by decide) ?_
                      exact ob_iret Cx hP hS d_Mo_slot_110 h
                  · rw [if_neg hc31_4] at h
                    by_cases hc31_5 : v2 = (5 : Int32)
                    · rw [if_pos hc31_5] at h
                      refine lv_tableIn (tgt := 111) (off := 80) hx hb d_Mo_slot_31 (by rw [hc31_5]; decide) (by rw [hc31_5]; decide) (by rw [hc31_5]; decide) (by decide) ?_
                      refine lv_aload_n hx hb d_Mo_slot_111 rfl (lv_at hl 0 rfl) ?_
                      refine ob_getR (k := 22) Cx hP ck_11 rfl w_f_Mo_72 d_Mo_slot_112 h (fun n112 h => ?_)
                      refine lv_iload_n hx hb d_Mo_slot_115 rfl (lv_at hl 1 rfl) ?_
                      refine ob_aldZ Cx hP d_Mo_slot_116 h (fun x116 h => ?_)
                      refine lv_if_eq (tgt := 129) hx hb d_Mo_slot_117 (by decide) (fun hq => ?_) (fun hq => ?_)
                      · rw [if_pos hq] at h
                        refine lv_iconst (v := 0) hx hb d_Mo_slot_129 (by decide) ?_
                        exact ob_iret Cx hP hS d_Mo_slot_130 h
                      · rw [if_neg hq] at h
                        refine lv_aload_n hx hb d_Mo_slot_120 rfl (lv_at hl 0 rfl) ?_
                        refine ob_getR (k := 23) Cx hP ck_11 rfl w_f_Mo_75 d_Mo_slot_121 h (fun n121 h => ?_)
                        refine lv_iload_n hx hb d_Mo_slot_124 rfl (lv_at hl 1 rfl) ?_
                        refine ob_aldI Cx hP d_Mo_slot_125 h (fun x125 h => ?_)
                        refine lv_goto (tgt := 130) hx hb d_Mo_slot_126 (by decide) ?_
                        exact ob_iret Cx hP hS d_Mo_slot_130 h
                    · rw [if_neg hc31_5] at h
                      have nhc31_0 := lv_neT hc31_0 (show ((0 : Int32)).toInt = 0 by decide)
                      have nhc31_1 := lv_neT hc31_1 (show ((1 : Int32)).toInt = 1 by decide)
                      have nhc31_2 := lv_neT hc31_2 (show ((2 : Int32)).toInt = 2 by decide)
                      have nhc31_3 := lv_neT hc31_3 (show ((3 : Int32)).toInt = 3 by decide)
                      have nhc31_4 := lv_neT hc31_4 (show ((4 : Int32)).toInt = 4 by decide)
                      have nhc31_5 := lv_neT hc31_5 (show ((5 : Int32)).toInt = 5 by decide)
                      refine lv_tableOut (tgt := 131) hx hb d_Mo_slot_31 (by omega) (by decide) ?_
                      refine lv_aload_n hx hb d_Mo_slot_131 rfl (lv_at hl 0 rfl) ?_
                      refine ob_getR (k := 14) Cx hP ck_11 rfl w_f_Mo_48 d_Mo_slot_132 h (fun n132 h => ?_)
                      refine lv_iload_n hx hb d_Mo_slot_135 rfl (lv_at hl 1 rfl) ?_
                      refine ob_aldI Cx hP d_Mo_slot_136 h (fun x136 h => ?_)
                      refine lv_iconst (v := 4) hx hb d_Mo_slot_137 (by decide) ?_
                      refine lv_icmp_ne (tgt := 150) hx hb d_Mo_slot_138 (by decide) (fun hq => ?_) (fun hq => ?_)
                      · rw [if_pos hq] at h
                        refine lv_iconst (v := 0) hx hb d_Mo_slot_150 (by decide) ?_
                        exact ob_iret Cx hP hS d_Mo_slot_151 h
                      · rw [if_neg (fun z => z hq)] at h
                        refine lv_aload_n hx hb d_Mo_slot_141 rfl (lv_at hl 0 rfl) ?_
                        refine ob_getR (k := 24) Cx hP ck_11 rfl w_f_Mo_78 d_Mo_slot_142 h (fun n142 h => ?_)
                        refine lv_iload_n hx hb d_Mo_slot_145 rfl (lv_at hl 1 rfl) ?_
                        refine ob_aldI Cx hP d_Mo_slot_146 h (fun x146 h => ?_)
                        refine lv_goto (tgt := 151) hx hb d_Mo_slot_147 (by decide) ?_
                        exact ob_iret Cx hP hS d_Mo_slot_151 h
        · rw [if_neg (fun z => z hq)] at h
          refine lv_iconst (v := 0) hx hb d_Mo_slot_28 (by decide) ?_
          exact ob_iret Cx hP hS d_Mo_slot_29 h
      · rw [if_neg hq] at h
        exact tB_Mo_slot_17 Cx t1 H locs ls hP hS (lv_sub hl [] rfl) h
set_option maxHeartbeats 4000000 in
set_option maxRecDepth 100000 in
theorem tB_Mo_body_30 {p : Program} {l : Launch} {e : Env} {R : Room} {s : State} {m : MethodId} {args : Array Value} {below : List Frame} {meth : Method} {c : Code} {b : Nat} {D : va_G} {cA : Nat → ClassId} {adK adV : Nat → Nat} {out : (Int32 × ob_S)} (Cx : ob_C p R s m args meth c cb_Mo_body 3 "ObservedBlocksModel" (some .int) b D cA adK adV 1 20) : ∀ (t : ob_S) (H : Heap) (locs : List Loc) (ls : Array Slot), ob_H b D cA t H → va_S (ob_A b) s.heap H locs → lv_has ls 3 [] → B_Mo_body_30 t = some out → W p l e R s m args below meth c H locs 0 0 (MQ below (ob_Qi b D cA out) args s 0 0 (ob_A b)) (F0 m 30 ls []) := by
  have hx := Cx.1.1
  have hb := Cx.1.2.1
  intro t H locs ls  hP hS hl h
  unfold B_Mo_body_30 at h
  refine lv_iconst (v := -1) hx hb d_Mo_body_30 (by decide) ?_
  exact ob_iret Cx hP hS d_Mo_body_31 h
theorem g_Mo_body (v0 : Nat) (v1 : Int32) (v2 : Int32) {t : ob_S} {out : (Int32 × ob_S)} (h : X_Mo_body v0 v1 v2 t = some out) : v0 < ob_n t ∧ ob_k t v0 = 11 := by
  unfold X_Mo_body ob_this at h
  by_cases q : v0 < ob_n t ∧ ob_k t v0 = 11
  · exact q
  · rw [if_neg q] at h
    cases h
set_option maxHeartbeats 4000000 in
set_option maxRecDepth 100000 in
theorem c_Mo_body {l : Launch} {b : Nat} {D : va_G} {cA : Nat → ClassId} {adK adV : Nat → Nat} (v0 : Nat) (v1 : Int32) (v2 : Int32) {t : ob_S} {out : (Int32 × ob_S)} (h : X_Mo_body v0 v1 v2 t = some out) : Met l y_Mo_body (Cond.code y_Mo_body cb_Mo_body 3 (some .int) :: ob_T) { frames := 1, cells := 0, slots := 0, locals := 20 } (ob_Pre b D cA adK adV [.ref (b + v0), .int v1, .int v2] t) (ob_Qi b D cA out) 0 0 (ob_A b) := by
  refine ob_met (by decide) (Nat.le_of_ble_eq_true rfl) ?_
  intro p e R s m args below meth c ls Cx hP hS hl
  have hl : lv_has ls 3 [(0, .ref (b + v0)), (1, .int v1), (2, .int v2)] := hl
  have hx := Cx.1.1
  have hb := Cx.1.2.1
  have hg := g_Mo_body v0 v1 v2 h
  unfold X_Mo_body ob_this at h
  rw [if_pos hg] at h
  obtain ⟨H, hH⟩ : ∃ H, H = s.heap := ⟨_, rfl⟩
  obtain ⟨locs, hL⟩ : ∃ locs : List Loc, locs = [] := ⟨_, rfl⟩
  rw [← hH] at hP
  have hS : va_S (ob_A b) s.heap H locs := by rw [hH, hL]; exact hS
  suffices hW : W p l e R s m args below meth c H locs 0 0 (MQ below (ob_Qi b D cA out) args s 0 0 (ob_A b)) (F0 m 0 ls []) by rw [hH, hL] at hW; exact hW
  refine lv_iload_n hx hb d_Mo_body_0 rfl (lv_at hl 1 rfl) ?_
  refine ob_cSi (nA := 1) (As := [.int v1]) (rest := []) Cx hl.1 hP hS (fun o ho => c_Mo_isSlot v1 ho) ms_Mo_isSlot w_m_Mo_297 rfl (by decide +kernel) ⟨rfl, rfl⟩ ⟨by decide, by decide⟩ (Nat.le_of_ble_eq_true rfl) rfl d_Mo_body_1 h (fun x1 t1 H locs h hP hS => ?_)
  refine lv_if_eq (tgt := 30) hx hb d_Mo_body_4 (by decide) (fun hq => ?_) (fun hq => ?_)
  · rw [if_pos hq] at h
    exact tB_Mo_body_30 Cx t1 H locs ls hP hS (lv_sub hl [] rfl) h
  · rw [if_neg hq] at h
    refine lv_aload_n hx hb d_Mo_body_7 rfl (lv_at hl 0 rfl) ?_
    refine ob_getR (k := 14) Cx hP ck_11 rfl w_f_Mo_48 d_Mo_body_8 h (fun n8 h => ?_)
    refine lv_iload_n hx hb d_Mo_body_11 rfl (lv_at hl 1 rfl) ?_
    refine ob_aldI Cx hP d_Mo_body_12 h (fun x12 h => ?_)
    refine lv_if_eq (tgt := 30) hx hb d_Mo_body_13 (by decide) (fun hq => ?_) (fun hq => ?_)
    · rw [if_pos hq] at h
      exact tB_Mo_body_30 Cx t1 H locs ls hP hS (lv_sub hl [] rfl) h
    · rw [if_neg hq] at h
      refine lv_iload_n hx hb d_Mo_body_16 rfl (lv_at hl 2 rfl) ?_
      refine lv_if_lt (tgt := 30) hx hb d_Mo_body_17 (by decide) (fun hq => ?_) (fun hq => ?_)
      · rw [if_pos hq] at h
        exact tB_Mo_body_30 Cx t1 H locs ls hP hS (lv_sub hl [] rfl) h
      · rw [if_neg hq] at h
        refine lv_iload_n hx hb d_Mo_body_20 rfl (lv_at hl 2 rfl) ?_
        refine lv_aload_n hx hb d_Mo_body_21 rfl (lv_at hl 0 rfl) ?_
        refine ob_getR (k := 27) Cx hP ck_11 rfl w_f_Mo_87 d_Mo_body_22 h (fun n22 h => ?_)
        refine lv_iload_n hx hb d_Mo_body_25 rfl (lv_at hl 1 rfl) ?_
        refine ob_aldI Cx hP d_Mo_body_26 h (fun x26 h => ?_)
        refine lv_icmp_lt (tgt := 32) hx hb d_Mo_body_27 (by decide) (fun hq => ?_) (fun hq => ?_)
        · rw [if_pos hq] at h
          refine lv_aload_n hx hb d_Mo_body_32 rfl (lv_at hl 0 rfl) ?_
          refine ob_getR (k := 26) Cx hP ck_11 rfl w_f_Mo_84 d_Mo_body_33 h (fun n33 h => ?_)
          refine lv_bipush (v := 80) hx hb d_Mo_body_36 (by decide) ?_
          refine lv_iload_n hx hb d_Mo_body_38 rfl (lv_at hl 1 rfl) ?_
          refine lv_imul hx hb d_Mo_body_39 ?_
          refine lv_iload_n hx hb d_Mo_body_40 rfl (lv_at hl 2 rfl) ?_
          refine lv_iadd hx hb d_Mo_body_41 ?_
          refine ob_aldI Cx hP d_Mo_body_42 h (fun x42 h => ?_)
          exact ob_iret Cx hP hS d_Mo_body_43 h
        · rw [if_neg hq] at h
          exact tB_Mo_body_30 Cx t1 H locs ls hP hS (lv_sub hl [] rfl) h
set_option maxHeartbeats 4000000 in
set_option maxRecDepth 100000 in
theorem tB_Mo_content_24 {p : Program} {l : Launch} {e : Env} {R : Room} {s : State} {m : MethodId} {args : Array Value} {below : List Frame} {meth : Method} {c : Code} {b : Nat} {D : va_G} {cA : Nat → ClassId} {adK adV : Nat → Nat} {out : (Int32 × ob_S)} (Cx : ob_C p R s m args meth c cb_Mo_content 3 "ObservedBlocksModel" (some .int) b D cA adK adV 0 0) : ∀ (t : ob_S) (H : Heap) (locs : List Loc) (ls : Array Slot), ob_H b D cA t H → va_S (ob_A b) s.heap H locs → lv_has ls 3 [] → B_Mo_content_24 t = some out → W p l e R s m args below meth c H locs 0 0 (MQ below (ob_Qi b D cA out) args s 0 0 (ob_A b)) (F0 m 24 ls []) := by
  have hx := Cx.1.1
  have hb := Cx.1.2.1
  intro t H locs ls  hP hS hl h
  unfold B_Mo_content_24 at h
  refine lv_iconst (v := -1) hx hb d_Mo_content_24 (by decide) ?_
  exact ob_iret Cx hP hS d_Mo_content_25 h
theorem g_Mo_content (v0 : Nat) (v1 : Int32) (v2 : Int32) {t : ob_S} {out : (Int32 × ob_S)} (h : X_Mo_content v0 v1 v2 t = some out) : v0 < ob_n t ∧ ob_k t v0 = 11 := by
  unfold X_Mo_content ob_this at h
  by_cases q : v0 < ob_n t ∧ ob_k t v0 = 11
  · exact q
  · rw [if_neg q] at h
    cases h
set_option maxHeartbeats 4000000 in
set_option maxRecDepth 100000 in
theorem c_Mo_content {l : Launch} {b : Nat} {D : va_G} {cA : Nat → ClassId} {adK adV : Nat → Nat} (v0 : Nat) (v1 : Int32) (v2 : Int32) {t : ob_S} {out : (Int32 × ob_S)} (h : X_Mo_content v0 v1 v2 t = some out) : Met l y_Mo_content (Cond.code y_Mo_content cb_Mo_content 3 (some .int) :: ob_T) { frames := 0, cells := 0, slots := 0, locals := 0 } (ob_Pre b D cA adK adV [.ref (b + v0), .int v1, .int v2] t) (ob_Qi b D cA out) 0 0 (ob_A b) := by
  refine ob_met (by decide) (Nat.le_of_ble_eq_true rfl) ?_
  intro p e R s m args below meth c ls Cx hP hS hl
  have hl : lv_has ls 3 [(0, .ref (b + v0)), (1, .int v1), (2, .int v2)] := hl
  have hx := Cx.1.1
  have hb := Cx.1.2.1
  have hg := g_Mo_content v0 v1 v2 h
  unfold X_Mo_content ob_this at h
  rw [if_pos hg] at h
  obtain ⟨H, hH⟩ : ∃ H, H = s.heap := ⟨_, rfl⟩
  obtain ⟨locs, hL⟩ : ∃ locs : List Loc, locs = [] := ⟨_, rfl⟩
  rw [← hH] at hP
  have hS : va_S (ob_A b) s.heap H locs := by rw [hH, hL]; exact hS
  suffices hW : W p l e R s m args below meth c H locs 0 0 (MQ below (ob_Qi b D cA out) args s 0 0 (ob_A b)) (F0 m 0 ls []) by rw [hH, hL] at hW; exact hW
  refine lv_iload_n hx hb d_Mo_content_0 rfl (lv_at hl 1 rfl) ?_
  refine lv_if_lt (tgt := 24) hx hb d_Mo_content_1 (by decide) (fun hq => ?_) (fun hq => ?_)
  · rw [if_pos hq] at h
    exact tB_Mo_content_24 Cx t H locs ls hP hS (lv_sub hl [] rfl) h
  · rw [if_neg hq] at h
    refine lv_iload_n hx hb d_Mo_content_4 rfl (lv_at hl 1 rfl) ?_
    refine lv_iconst (v := 3) hx hb d_Mo_content_5 (by decide) ?_
    refine lv_icmp_gt (tgt := 24) hx hb d_Mo_content_6 (by decide) (fun hq => ?_) (fun hq => ?_)
    · rw [if_pos hq] at h
      exact tB_Mo_content_24 Cx t H locs ls hP hS (lv_sub hl [] rfl) h
    · rw [if_neg hq] at h
      refine lv_iload_n hx hb d_Mo_content_9 rfl (lv_at hl 2 rfl) ?_
      refine lv_iconst (v := -1) hx hb d_Mo_content_10 (by decide) ?_
      refine lv_icmp_lt (tgt := 24) hx hb d_Mo_content_11 (by decide) (fun hq => ?_) (fun hq => ?_)
      · rw [if_pos hq] at h
        exact tB_Mo_content_24 Cx t H locs ls hP hS (lv_sub hl [] rfl) h
      · rw [if_neg hq] at h
        refine lv_iload_n hx hb d_Mo_content_14 rfl (lv_at hl 2 rfl) ?_
        refine lv_aload_n hx hb d_Mo_content_15 rfl (lv_at hl 0 rfl) ?_
        refine ob_getR (k := 29) Cx hP ck_11 rfl w_f_Mo_93 d_Mo_content_16 h (fun n16 h => ?_)
        refine lv_iload_n hx hb d_Mo_content_19 rfl (lv_at hl 1 rfl) ?_
        refine ob_aldI Cx hP d_Mo_content_20 h (fun x20 h => ?_)
        refine lv_icmp_lt (tgt := 26) hx hb d_Mo_content_21 (by decide) (fun hq => ?_) (fun hq => ?_)
        · rw [if_pos hq] at h
          refine lv_iload_n hx hb d_Mo_content_26 rfl (lv_at hl 2 rfl) ?_
          refine lv_iconst (v := -1) hx hb d_Mo_content_27 (by decide) ?_
          refine lv_icmp_ne (tgt := 40) hx hb d_Mo_content_28 (by decide) (fun hq => ?_) (fun hq => ?_)
          · rw [if_pos hq] at h
            refine lv_aload_n hx hb d_Mo_content_40 rfl (lv_at hl 0 rfl) ?_
            refine ob_getR (k := 28) Cx hP ck_11 rfl w_f_Mo_90 d_Mo_content_41 h (fun n41 h => ?_)
            refine lv_bipush (v := 64) hx hb d_Mo_content_44 (by decide) ?_
            refine lv_iload_n hx hb d_Mo_content_46 rfl (lv_at hl 1 rfl) ?_
            refine lv_imul hx hb d_Mo_content_47 ?_
            refine lv_iload_n hx hb d_Mo_content_48 rfl (lv_at hl 2 rfl) ?_
            refine lv_iadd hx hb d_Mo_content_49 ?_
            refine ob_aldI Cx hP d_Mo_content_50 h (fun x50 h => ?_)
            exact ob_iret Cx hP hS d_Mo_content_51 h
          · rw [if_neg (fun z => z hq)] at h
            refine lv_aload_n hx hb d_Mo_content_31 rfl (lv_at hl 0 rfl) ?_
            refine ob_getR (k := 29) Cx hP ck_11 rfl w_f_Mo_93 d_Mo_content_32 h (fun n32 h => ?_)
            refine lv_iload_n hx hb d_Mo_content_35 rfl (lv_at hl 1 rfl) ?_
            refine ob_aldI Cx hP d_Mo_content_36 h (fun x36 h => ?_)
            refine lv_goto (tgt := 51) hx hb d_Mo_content_37 (by decide) ?_
            exact ob_iret Cx hP hS d_Mo_content_51 h
        · rw [if_neg hq] at h
          exact tB_Mo_content_24 Cx t H locs ls hP hS (lv_sub hl [] rfl) h
theorem g_Mo_server (v0 : Nat) (v1 : Int32) {t : ob_S} {out : (Int32 × ob_S)} (h : X_Mo_server v0 v1 t = some out) : v0 < ob_n t ∧ ob_k t v0 = 11 := by
  unfold X_Mo_server ob_this at h
  by_cases q : v0 < ob_n t ∧ ob_k t v0 = 11
  · exact q
  · rw [if_neg q] at h
    cases h
set_option maxHeartbeats 4000000 in
set_option maxRecDepth 100000 in
theorem c_Mo_server {l : Launch} {b : Nat} {D : va_G} {cA : Nat → ClassId} {adK adV : Nat → Nat} (v0 : Nat) (v1 : Int32) {t : ob_S} {out : (Int32 × ob_S)} (h : X_Mo_server v0 v1 t = some out) : Met l y_Mo_server (Cond.code y_Mo_server cb_Mo_server 2 (some .int) :: ob_T) { frames := 0, cells := 0, slots := 0, locals := 0 } (ob_Pre b D cA adK adV [.ref (b + v0), .int v1] t) (ob_Qi b D cA out) 0 0 (ob_A b) := by
  refine ob_met (by decide) (Nat.le_of_ble_eq_true rfl) ?_
  intro p e R s m args below meth c ls Cx hP hS hl
  have hl : lv_has ls 2 [(0, .ref (b + v0)), (1, .int v1)] := hl
  have hx := Cx.1.1
  have hb := Cx.1.2.1
  have hg := g_Mo_server v0 v1 h
  unfold X_Mo_server ob_this at h
  rw [if_pos hg] at h
  obtain ⟨H, hH⟩ : ∃ H, H = s.heap := ⟨_, rfl⟩
  obtain ⟨locs, hL⟩ : ∃ locs : List Loc, locs = [] := ⟨_, rfl⟩
  rw [← hH] at hP
  have hS : va_S (ob_A b) s.heap H locs := by rw [hH, hL]; exact hS
  suffices hW : W p l e R s m args below meth c H locs 0 0 (MQ below (ob_Qi b D cA out) args s 0 0 (ob_A b)) (F0 m 0 ls []) by rw [hH, hL] at hW; exact hW
  refine lv_iload_n hx hb d_Mo_server_0 rfl (lv_at hl 1 rfl) ?_
  refine lv_if_ne (tgt := 11) hx hb d_Mo_server_1 (by decide) (fun hq => ?_) (fun hq => ?_)
  · rw [if_pos hq] at h
    refine lv_iload_n hx hb d_Mo_server_11 rfl (lv_at hl 1 rfl) ?_
    refine lv_iconst (v := 1) hx hb d_Mo_server_12 (by decide) ?_
    refine lv_icmp_ne (tgt := 23) hx hb d_Mo_server_13 (by decide) (fun hq => ?_) (fun hq => ?_)
    · rw [if_pos hq] at h
      refine lv_iload_n hx hb d_Mo_server_23 rfl (lv_at hl 1 rfl) ?_
      refine lv_iconst (v := 2) hx hb d_Mo_server_24 (by decide) ?_
      refine lv_icmp_ne (tgt := 35) hx hb d_Mo_server_25 (by decide) (fun hq => ?_) (fun hq => ?_)
      · rw [if_pos hq] at h
        refine lv_iload_n hx hb d_Mo_server_35 rfl (lv_at hl 1 rfl) ?_
        refine lv_iconst (v := 3) hx hb d_Mo_server_36 (by decide) ?_
        refine lv_icmp_ne (tgt := 70) hx hb d_Mo_server_37 (by decide) (fun hq => ?_) (fun hq => ?_)
        · rw [if_pos hq] at h
          refine lv_iconst (v := -1) hx hb d_Mo_server_70 (by decide) ?_
          exact ob_iret Cx hP hS d_Mo_server_71 h
        · rw [if_neg (fun z => z hq)] at h
          refine lv_aload_n hx hb d_Mo_server_40 rfl (lv_at hl 0 rfl) ?_
          refine ob_getR (k := 31) Cx hP ck_11 rfl w_f_Mo_99 d_Mo_server_41 h (fun n41 h => ?_)
          refine lv_iconst (v := 0) hx hb d_Mo_server_44 (by decide) ?_
          refine ob_aldI Cx hP d_Mo_server_45 h (fun x45 h => ?_)
          refine lv_aload_n hx hb d_Mo_server_46 rfl (lv_at hl 0 rfl) ?_
          refine ob_getR (k := 31) Cx hP ck_11 rfl w_f_Mo_99 d_Mo_server_47 h (fun n47 h => ?_)
          refine lv_iconst (v := 1) hx hb d_Mo_server_50 (by decide) ?_
          refine ob_aldI Cx hP d_Mo_server_51 h (fun x51 h => ?_)
          refine lv_iadd hx hb d_Mo_server_52 ?_
          refine lv_aload_n hx hb d_Mo_server_53 rfl (lv_at hl 0 rfl) ?_
          refine ob_getR (k := 31) Cx hP ck_11 rfl w_f_Mo_99 d_Mo_server_54 h (fun n54 h => ?_)
          refine lv_iconst (v := 2) hx hb d_Mo_server_57 (by decide) ?_
          refine ob_aldI Cx hP d_Mo_server_58 h (fun x58 h => ?_)
          refine lv_iadd hx hb d_Mo_server_59 ?_
          refine lv_aload_n hx hb d_Mo_server_60 rfl (lv_at hl 0 rfl) ?_
          refine ob_getR (k := 31) Cx hP ck_11 rfl w_f_Mo_99 d_Mo_server_61 h (fun n61 h => ?_)
          refine lv_iconst (v := 3) hx hb d_Mo_server_64 (by decide) ?_
          refine ob_aldI Cx hP d_Mo_server_65 h (fun x65 h => ?_)
          refine lv_iadd hx hb d_Mo_server_66 ?_
          refine lv_goto (tgt := 71) hx hb d_Mo_server_67 (by decide) ?_
          exact ob_iret Cx hP hS d_Mo_server_71 h
      · rw [if_neg (fun z => z hq)] at h
        refine lv_aload_n hx hb d_Mo_server_28 rfl (lv_at hl 0 rfl) ?_
        refine ob_getI (k := 37) Cx hP ck_11 rfl w_f_Mo_245 d_Mo_server_29 h (fun x29 h => ?_)
        refine lv_goto (tgt := 71) hx hb d_Mo_server_32 (by decide) ?_
        exact ob_iret Cx hP hS d_Mo_server_71 h
    · rw [if_neg (fun z => z hq)] at h
      refine lv_aload_n hx hb d_Mo_server_16 rfl (lv_at hl 0 rfl) ?_
      refine ob_getI (k := 32) Cx hP ck_11 rfl w_f_Mo_242 d_Mo_server_17 h (fun x17 h => ?_)
      refine lv_goto (tgt := 71) hx hb d_Mo_server_20 (by decide) ?_
      exact ob_iret Cx hP hS d_Mo_server_71 h
  · rw [if_neg (fun z => z hq)] at h
    refine lv_aload_n hx hb d_Mo_server_4 rfl (lv_at hl 0 rfl) ?_
    refine ob_getI (k := 38) Cx hP ck_11 rfl w_f_Mo_278 d_Mo_server_5 h (fun x5 h => ?_)
    refine lv_goto (tgt := 71) hx hb d_Mo_server_8 (by decide) ?_
    exact ob_iret Cx hP hS d_Mo_server_71 h

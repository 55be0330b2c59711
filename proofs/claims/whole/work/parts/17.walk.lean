theorem g_Ob_waiting (v0 : Nat) {t : ob_S} {out : (Int32 × ob_S)} (h : X_Ob_waiting v0 t = some out) : v0 < ob_n t ∧ ob_k t v0 = 10 := by
  unfold X_Ob_waiting ob_this at h
  by_cases q : v0 < ob_n t ∧ ob_k t v0 = 10
  · exact q
  · rw [if_neg q] at h
    cases h
set_option maxHeartbeats 4000000 in
set_option maxRecDepth 100000 in
theorem c_Ob_waiting {l : Launch} {b : Nat} {D : va_G} {cA : Nat → ClassId} {adK adV : Nat → Nat} (v0 : Nat) {t : ob_S} {out : (Int32 × ob_S)} (h : X_Ob_waiting v0 t = some out) : Met l y_Ob_waiting (Cond.code y_Ob_waiting cb_Ob_waiting 1 (some .int) :: ob_T) { frames := 0, cells := 0, slots := 0, locals := 0 } (ob_Pre b D cA adK adV [.ref (b + v0)] t) (ob_Qi b D cA out) 0 0 (ob_A b) := by
  refine ob_met (by decide) (Nat.le_of_ble_eq_true rfl) ?_
  intro p e R s m args below meth c ls Cx hP hS hl
  have hl : lv_has ls 1 [(0, .ref (b + v0))] := hl
  have hx := Cx.1.1
  have hb := Cx.1.2.1
  have hg := g_Ob_waiting v0 h
  unfold X_Ob_waiting ob_this at h
  rw [if_pos hg] at h
  obtain ⟨H, hH⟩ : ∃ H, H = s.heap := ⟨_, rfl⟩
  obtain ⟨locs, hL⟩ : ∃ locs : List Loc, locs = [] := ⟨_, rfl⟩
  rw [← hH] at hP
  have hS : va_S (ob_A b) s.heap H locs := by rw [hH, hL]; exact hS
  suffices hW : W p l e R s m args below meth c H locs 0 0 (MQ below (ob_Qi b D cA out) args s 0 0 (ob_A b)) (F0 m 0 ls []) by rw [hH, hL] at hW; exact hW
  refine lv_aload_n hx hb d_Ob_waiting_0 rfl (lv_at hl 0 rfl) ?_
  refine ob_getR (k := 0) Cx hP ck_10 rfl w_f_Ob_10 d_Ob_waiting_1 h (fun n1 h => ?_)
  refine ob_getI (k := 2) Cx hP ck_1 rfl w_f_Ob_129 d_Ob_waiting_4 h (fun x4 h => ?_)
  exact ob_iret Cx hP hS d_Ob_waiting_7 h
theorem g_Ob_datagram (v0 : Nat) (v1 : Int32) (v2 : Int32) {t : ob_S} {out : (Int32 × ob_S)} (h : X_Ob_datagram v0 v1 v2 t = some out) : v0 < ob_n t ∧ ob_k t v0 = 10 := by
  unfold X_Ob_datagram ob_this at h
  by_cases q : v0 < ob_n t ∧ ob_k t v0 = 10
  · exact q
  · rw [if_neg q] at h
    cases h
set_option maxHeartbeats 4000000 in
set_option maxRecDepth 100000 in
theorem c_Ob_datagram {l : Launch} {b : Nat} {D : va_G} {cA : Nat → ClassId} {adK adV : Nat → Nat} (v0 : Nat) (v1 : Int32) (v2 : Int32) {t : ob_S} {out : (Int32 × ob_S)} (h : X_Ob_datagram v0 v1 v2 t = some out) : Met l y_Ob_datagram (Cond.code y_Ob_datagram cb_Ob_datagram 3 (some .int) :: ob_T) { frames := 2, cells := 0, slots := 0, locals := 42 } (ob_Pre b D cA adK adV [.ref (b + v0), .int v1, .int v2] t) (ob_Qi b D cA out) 0 0 (ob_A b) := by
  refine ob_met (by decide) (Nat.le_of_ble_eq_true rfl) ?_
  intro p e R s m args below meth c ls Cx hP hS hl
  have hl : lv_has ls 3 [(0, .ref (b + v0)), (1, .int v1), (2, .int v2)] := hl
  have hx := Cx.1.1
  have hb := Cx.1.2.1
  have hg := g_Ob_datagram v0 v1 v2 h
  unfold X_Ob_datagram ob_this at h
  rw [if_pos hg] at h
  obtain ⟨H, hH⟩ : ∃ H, H = s.heap := ⟨_, rfl⟩
  obtain ⟨locs, hL⟩ : ∃ locs : List Loc, locs = [] := ⟨_, rfl⟩
  rw [← hH] at hP
  have hS : va_S (ob_A b) s.heap H locs := by rw [hH, hL]; exact hS
  suffices hW : W p l e R s m args below meth c H locs 0 0 (MQ below (ob_Qi b D cA out) args s 0 0 (ob_A b)) (F0 m 0 ls []) by rw [hH, hL] at hW; exact hW
  refine lv_aload_n hx hb d_Ob_datagram_0 rfl (lv_at hl 0 rfl) ?_
  refine ob_getR (k := 0) Cx hP ck_10 rfl w_f_Ob_10 d_Ob_datagram_1 h (fun n1 h => ?_)
  refine lv_iload_n hx hb d_Ob_datagram_4 rfl (lv_at hl 1 rfl) ?_
  refine ob_cVi (nA := 1) (As := [.int v1]) (rest := []) Cx hl.1 hP hS (fun o ho => c_Li_has n1 v1 ho) (fun o ho => g_Li_has n1 v1 ho) (by decide) (rfl : ob_cl[1]? = _) mv_Li_has w_m_Ob_96 rfl (by decide +kernel) ⟨rfl, rfl⟩ ⟨by decide, by decide⟩ (Nat.le_of_ble_eq_true rfl) rfl d_Ob_datagram_5 h (fun x5 t5 H locs h hP hS => ?_)
  refine lv_if_ne (tgt := 13) hx hb d_Ob_datagram_8 (by decide) (fun hq => ?_) (fun hq => ?_)
  · rw [if_pos hq] at h
    refine lv_iload_n hx hb d_Ob_datagram_13 rfl (lv_at hl 2 rfl) ?_
    refine lv_iconst (v := -1) hx hb d_Ob_datagram_14 (by decide) ?_
    refine lv_icmp_ne (tgt := 31) hx hb d_Ob_datagram_15 (by decide) (fun hq => ?_) (fun hq => ?_)
    · rw [if_pos hq] at h
      refine lv_iload_n hx hb d_Ob_datagram_31 rfl (lv_at hl 2 rfl) ?_
      refine lv_bipush (v := -2) hx hb d_Ob_datagram_32 (by decide) ?_
      refine lv_icmp_ne (tgt := 47) hx hb d_Ob_datagram_34 (by decide) (fun hq => ?_) (fun hq => ?_)
      · rw [if_pos hq] at h
        refine lv_aload_n hx hb d_Ob_datagram_47 rfl (lv_at hl 0 rfl) ?_
        refine ob_getR (k := 0) Cx hP ck_10 rfl w_f_Ob_10 d_Ob_datagram_48 h (fun n48 h => ?_)
        refine ob_getR (k := 0) Cx hP ck_1 rfl w_f_Ob_104 d_Ob_datagram_51 h (fun n51 h => ?_)
        refine lv_iload_n hx hb d_Ob_datagram_54 rfl (lv_at hl 1 rfl) ?_
        refine ob_aldR (kd := 14) Cx hP (by decide) rfl d_Ob_datagram_55 h (fun n55 h => ?_)
        refine lv_iload_n hx hb d_Ob_datagram_56 rfl (lv_at hl 2 rfl) ?_
        refine ob_cVi (nA := 1) (As := [.int v2]) (rest := []) Cx hl.1 hP hS (fun o ho => c_By_byteOrBad n55 v2 ho) (fun o ho => g_By_byteOrBad n55 v2 ho) (by decide) (rfl : ob_cl[0]? = _) mv_By_byteOrBad w_m_Ob_143 rfl (by decide +kernel) ⟨rfl, rfl⟩ ⟨by decide, by decide⟩ (Nat.le_of_ble_eq_true rfl) rfl d_Ob_datagram_57 h (fun x57 t57 H locs h hP hS => ?_)
        exact ob_iret Cx hP hS d_Ob_datagram_60 h
      · rw [if_neg (fun z => z hq)] at h
        refine lv_aload_n hx hb d_Ob_datagram_37 rfl (lv_at hl 0 rfl) ?_
        refine ob_getR (k := 0) Cx hP ck_10 rfl w_f_Ob_10 d_Ob_datagram_38 h (fun n38 h => ?_)
        refine ob_getR (k := 1) Cx hP ck_1 rfl w_f_Ob_100 d_Ob_datagram_41 h (fun n41 h => ?_)
        refine lv_iload_n hx hb d_Ob_datagram_44 rfl (lv_at hl 1 rfl) ?_
        refine ob_aldI Cx hP d_Ob_datagram_45 h (fun x45 h => ?_)
        exact ob_iret Cx hP hS d_Ob_datagram_46 h
    · rw [if_neg (fun z => z hq)] at h
      refine lv_aload_n hx hb d_Ob_datagram_18 rfl (lv_at hl 0 rfl) ?_
      refine ob_getR (k := 0) Cx hP ck_10 rfl w_f_Ob_10 d_Ob_datagram_19 h (fun n19 h => ?_)
      refine ob_getR (k := 0) Cx hP ck_1 rfl w_f_Ob_104 d_Ob_datagram_22 h (fun n22 h => ?_)
      refine lv_iload_n hx hb d_Ob_datagram_25 rfl (lv_at hl 1 rfl) ?_
      refine ob_aldR (kd := 14) Cx hP (by decide) rfl d_Ob_datagram_26 h (fun n26 h => ?_)
      refine ob_getI (k := 1) Cx hP ck_0 rfl w_f_Ob_140 d_Ob_datagram_27 h (fun x27 h => ?_)
      exact ob_iret Cx hP hS d_Ob_datagram_30 h
  · rw [if_neg (fun z => z hq)] at h
    refine lv_iconst (v := -1) hx hb d_Ob_datagram_11 (by decide) ?_
    exact ob_iret Cx hP hS d_Ob_datagram_12 h
theorem g_Sl_tellOf (v0 : Nat) (v1 : Int32) {t : ob_S} {out : (Int32 × ob_S)} (h : X_Sl_tellOf v0 v1 t = some out) : v0 < ob_n t ∧ ob_k t v0 = 6 := by
  unfold X_Sl_tellOf ob_this at h
  by_cases q : v0 < ob_n t ∧ ob_k t v0 = 6
  · exact q
  · rw [if_neg q] at h
    cases h
set_option maxHeartbeats 4000000 in
set_option maxRecDepth 100000 in
theorem c_Sl_tellOf {l : Launch} {b : Nat} {D : va_G} {cA : Nat → ClassId} {adK adV : Nat → Nat} (v0 : Nat) (v1 : Int32) {t : ob_S} {out : (Int32 × ob_S)} (h : X_Sl_tellOf v0 v1 t = some out) : Met l y_Sl_tellOf (Cond.code y_Sl_tellOf cb_Sl_tellOf 2 (some .int) :: ob_T) { frames := 0, cells := 0, slots := 0, locals := 0 } (ob_Pre b D cA adK adV [.ref (b + v0), .int v1] t) (ob_Qi b D cA out) 0 0 (ob_A b) := by
  refine ob_met (by decide) (Nat.le_of_ble_eq_true rfl) ?_
  intro p e R s m args below meth c ls Cx hP hS hl
  have hl : lv_has ls 2 [(0, .ref (b + v0)), (1, .int v1)] := hl
  have hx := Cx.1.1
  have hb := Cx.1.2.1
  have hg := g_Sl_tellOf v0 v1 h
  unfold X_Sl_tellOf ob_this at h
  rw [if_pos hg] at h
  obtain ⟨H, hH⟩ : ∃ H, H = s.heap := ⟨_, rfl⟩
  obtain ⟨locs, hL⟩ : ∃ locs : List Loc, locs = [] := ⟨_, rfl⟩
  rw [← hH] at hP
  have hS : va_S (ob_A b) s.heap H locs := by rw [hH, hL]; exact hS
  suffices hW : W p l e R s m args below meth c H locs 0 0 (MQ below (ob_Qi b D cA out) args s 0 0 (ob_A b)) (F0 m 0 ls []) by rw [hH, hL] at hW; exact hW
  refine lv_aload_n hx hb d_Sl_tellOf_0 rfl (lv_at hl 0 rfl) ?_
  refine ob_getI (k := 2) Cx hP ck_6 rfl w_f_Sl_34 d_Sl_tellOf_1 h (fun x1 h => ?_)
  refine lv_if_ne (tgt := 9) hx hb d_Sl_tellOf_4 (by decide) (fun hq => ?_) (fun hq => ?_)
  · rw [if_pos hq] at h
    refine lv_iload_n hx hb d_Sl_tellOf_9 rfl (lv_at hl 1 rfl) ?_
    by_cases hc10_0 : v1 = (0 : Int32)
    · rw [if_pos hc10_0] at h
      refine lv_tableIn (tgt := 48) (off := 38) hx hb d_Sl_tellOf_10 (by rw [hc10_0]; decide) (by rw [hc10_0]; decide) (by rw [hc10_0]; decide) (by decide) ?_
      refine lv_aload_n hx hb d_Sl_tellOf_48 rfl (lv_at hl 0 rfl) ?_
      refine ob_getI (k := 2) Cx hP ck_6 rfl w_f_Sl_34 d_Sl_tellOf_49 h (fun x49 h => ?_)
      exact ob_iret Cx hP hS d_Sl_tellOf_52 h
    · rw [if_neg hc10_0] at h
      by_cases hc10_1 : v1 = (1 : Int32)
      · rw [if_pos hc10_1] at h
        refine lv_tableIn (tgt := 53) (off := 43) hx hb d_Sl_tellOf_10 (by rw [hc10_1]; decide) (by rw [hc10_1]; decide) (by rw [hc10_1]; decide) (by decide) ?_
        refine lv_aload_n hx hb d_Sl_tellOf_53 rfl (lv_at hl 0 rfl) ?_
        refine ob_getI (k := 3) Cx hP ck_6 rfl w_f_Sl_37 d_Sl_tellOf_54 h (fun x54 h => ?_)
        exact ob_iret Cx hP hS d_Sl_tellOf_57 h
      · rw [if_neg hc10_1] at h
        by_cases hc10_2 : v1 = (2 : Int32)
        · rw [if_pos hc10_2] at h
          refine lv_tableIn (tgt := 58) (off := 48) hx hb d_Sl_tellOf_10 (by rw [hc10_2]; decide) (by rw [hc10_2]; decide) (by rw [hc10_2]; decide) (by decide) ?_
          refine lv_aload_n hx hb d_Sl_tellOf_58 rfl (lv_at hl 0 rfl) ?_
          refine ob_getI (k := 6) Cx hP ck_6 rfl w_f_Sl_46 d_Sl_tellOf_59 h (fun x59 h => ?_)
          exact ob_iret Cx hP hS d_Sl_tellOf_62 h
        · rw [if_neg hc10_2] at h
          by_cases hc10_3 : v1 = (3 : Int32)
          · rw [if_pos hc10_3] at h
            refine lv_tableIn (tgt := 63) (off := 53) hx hb d_Sl_tellOf_10 (by rw [hc10_3]; decide) (by rw [hc10_3]; decide) (by rw [hc10_3]; decide) (by decide) ?_
            refine lv_aload_n hx hb d_Sl_tellOf_63 rfl (lv_at hl 0 rfl) ?_
            refine ob_getR (k := 0) Cx hP ck_6 rfl w_f_Sl_14 d_Sl_tellOf_64 h (fun n64 h => ?_)
            refine ob_getI (k := 1) Cx hP ck_0 rfl w_f_Sl_81 d_Sl_tellOf_67 h (fun x67 h => ?_)
            exact ob_iret Cx hP hS d_Sl_tellOf_70 h
          · rw [if_neg hc10_3] at h
            by_cases hc10_4 : v1 = (4 : Int32)
            · rw [if_pos hc10_4] at h
              refine lv_tableIn (tgt := 71) (off := 61) hx hb d_Sl_tellOf_10 (by rw [hc10_4]; decide) (by rw [hc10_4]; decide) (by rw [hc10_4]; decide) (by decide) ?_
              refine lv_aload_n hx hb d_Sl_tellOf_71 rfl (lv_at hl 0 rfl) ?_
              refine ob_getI (k := 11) Cx hP ck_6 rfl w_f_Sl_56 d_Sl_tellOf_72 h (fun x72 h => ?_)
              refine lv_if_eq (tgt := 82) hx hb d_Sl_tellOf_75 (by decide) (fun hq => ?_) (fun hq => ?_)
              · rw [if_pos hq] at h
                refine lv_iconst (v := 0) hx hb d_Sl_tellOf_82 (by decide) ?_
                exact ob_iret Cx hP hS d_Sl_tellOf_83 h
              · rw [if_neg hq] at h
                refine lv_iconst (v := 1) hx hb d_Sl_tellOf_78 (by decide) ?_
                refine lv_goto (tgt := 83) hx hb d_Sl_tellOf_79 (by decide) ?_
                exact ob_iret Cx hP hS d_Sl_tellOf_83 h
            · rw [if_neg hc10_4] at h
              by_cases hc10_5 : v1 = (5 : Int32)
              · rw [if_pos hc10_5] at h
                refine lv_tableIn (tgt := 84) (off := 74) hx hb d_Sl_tellOf_10 (by rw [hc10_5]; decide) (by rw [hc10_5]; decide) (by rw [hc10_5]; decide) (by decide) ?_
                refine lv_aload_n hx hb d_Sl_tellOf_84 rfl (lv_at hl 0 rfl) ?_
                refine ob_getI (k := 12) Cx hP ck_6 rfl w_f_Sl_59 d_Sl_tellOf_85 h (fun x85 h => ?_)
                exact ob_iret Cx hP hS d_Sl_tellOf_88 h
              · rw [if_neg hc10_5] at h
                have nhc10_0 := lv_neT hc10_0 (show ((0 : Int32)).toInt = 0 by decide)
                have nhc10_1 := lv_neT hc10_1 (show ((1 : Int32)).toInt = 1 by decide)
                have nhc10_2 := lv_neT hc10_2 (show ((2 : Int32)).toInt = 2 by decide)
                have nhc10_3 := lv_neT hc10_3 (show ((3 : Int32)).toInt = 3 by decide)
                have nhc10_4 := lv_neT hc10_4 (show ((4 : Int32)).toInt = 4 by decide)
                have nhc10_5 := lv_neT hc10_5 (show ((5 : Int32)).toInt = 5 by decide)
                refine lv_tableOut (tgt := 89) hx hb d_Sl_tellOf_10 (by omega) (by decide) ?_
                refine lv_aload_n hx hb d_Sl_tellOf_89 rfl (lv_at hl 0 rfl) ?_
                refine ob_getI (k := 2) Cx hP ck_6 rfl w_f_Sl_34 d_Sl_tellOf_90 h (fun x90 h => ?_)
                refine lv_iconst (v := 4) hx hb d_Sl_tellOf_93 (by decide) ?_
                refine lv_icmp_ne (tgt := 104) hx hb d_Sl_tellOf_94 (by decide) (fun hq => ?_) (fun hq => ?_)
                · rw [if_pos hq] at h
                  refine lv_iconst (v := 0) hx hb d_Sl_tellOf_104 (by decide) ?_
                  exact ob_iret Cx hP hS d_Sl_tellOf_105 h
                · rw [if_neg (fun z => z hq)] at h
                  refine lv_aload_n hx hb d_Sl_tellOf_97 rfl (lv_at hl 0 rfl) ?_
                  refine ob_getI (k := 13) Cx hP ck_6 rfl w_f_Sl_62 d_Sl_tellOf_98 h (fun x98 h => ?_)
                  refine lv_goto (tgt := 105) hx hb d_Sl_tellOf_101 (by decide) ?_
                  exact ob_iret Cx hP hS d_Sl_tellOf_105 h
  · rw [if_neg (fun z => z hq)] at h
    refine lv_iconst (v := 0) hx hb d_Sl_tellOf_7 (by decide) ?_
    exact ob_iret Cx hP hS d_Sl_tellOf_8 h
set_option maxHeartbeats 4000000 in
set_option maxRecDepth 100000 in
theorem tB_Ob_slot_17 {p : Program} {l : Launch} {e : Env} {R : Room} {s : State} {m : MethodId} {args : Array Value} {below : List Frame} {meth : Method} {c : Code} {b : Nat} {D : va_G} {cA : Nat → ClassId} {adK adV : Nat → Nat} {out : (Int32 × ob_S)} (Cx : ob_C p R s m args meth c cb_Ob_slot 3 "ObservedBlocks" (some .int) b D cA adK adV 1 21) : ∀ (t : ob_S) (H : Heap) (locs : List Loc) (ls : Array Slot), ob_H b D cA t H → va_S (ob_A b) s.heap H locs → lv_has ls 3 [] → B_Ob_slot_17 t = some out → W p l e R s m args below meth c H locs 0 0 (MQ below (ob_Qi b D cA out) args s 0 0 (ob_A b)) (F0 m 17 ls []) := by
  have hx := Cx.1.1
  have hb := Cx.1.2.1
  intro t H locs ls  hP hS hl h
  unfold B_Ob_slot_17 at h
  refine lv_iconst (v := -1) hx hb d_Ob_slot_17 (by decide) ?_
  exact ob_iret Cx hP hS d_Ob_slot_18 h
theorem g_Ob_slot (v0 : Nat) (v1 : Int32) (v2 : Int32) {t : ob_S} {out : (Int32 × ob_S)} (h : X_Ob_slot v0 v1 v2 t = some out) : v0 < ob_n t ∧ ob_k t v0 = 10 := by
  unfold X_Ob_slot ob_this at h
  by_cases q : v0 < ob_n t ∧ ob_k t v0 = 10
  · exact q
  · rw [if_neg q] at h
    cases h
set_option maxHeartbeats 4000000 in
set_option maxRecDepth 100000 in
theorem c_Ob_slot {l : Launch} {b : Nat} {D : va_G} {cA : Nat → ClassId} {adK adV : Nat → Nat} (v0 : Nat) (v1 : Int32) (v2 : Int32) {t : ob_S} {out : (Int32 × ob_S)} (h : X_Ob_slot v0 v1 v2 t = some out) : Met l y_Ob_slot (Cond.code y_Ob_slot cb_Ob_slot 3 (some .int) :: ob_T) { frames := 1, cells := 0, slots := 0, locals := 21 } (ob_Pre b D cA adK adV [.ref (b + v0), .int v1, .int v2] t) (ob_Qi b D cA out) 0 0 (ob_A b) := by
  refine ob_met (by decide) (Nat.le_of_ble_eq_true rfl) ?_
  intro p e R s m args below meth c ls Cx hP hS hl
  have hl : lv_has ls 3 [(0, .ref (b + v0)), (1, .int v1), (2, .int v2)] := hl
  have hx := Cx.1.1
  have hb := Cx.1.2.1
  have hg := g_Ob_slot v0 v1 v2 h
  unfold X_Ob_slot ob_this at h
  rw [if_pos hg] at h
  obtain ⟨H, hH⟩ : ∃ H, H = s.heap := ⟨_, rfl⟩
  obtain ⟨locs, hL⟩ : ∃ locs : List Loc, locs = [] := ⟨_, rfl⟩
  rw [← hH] at hP
  have hS : va_S (ob_A b) s.heap H locs := by rw [hH, hL]; exact hS
  suffices hW : W p l e R s m args below meth c H locs 0 0 (MQ below (ob_Qi b D cA out) args s 0 0 (ob_A b)) (F0 m 0 ls []) by rw [hH, hL] at hW; exact hW
  refine lv_iload_n hx hb d_Ob_slot_0 rfl (lv_at hl 1 rfl) ?_
  refine lv_iconst (v := 1) hx hb d_Ob_slot_1 (by decide) ?_
  refine ob_cSi (nA := 2) (As := [.int v1, .int (1 : Int32)]) (rest := []) Cx hl.1 hP hS (fun o ho => c_Ob_isWithin v1 (1 : Int32) ho) ms_Ob_isWithin w_m_Ob_67 rfl (by decide +kernel) ⟨rfl, rfl⟩ ⟨by decide, by decide⟩ (Nat.le_of_ble_eq_true rfl) rfl d_Ob_slot_2 h (fun x2 t2 H locs h hP hS => ?_)
  refine lv_if_eq (tgt := 17) hx hb d_Ob_slot_5 (by decide) (fun hq => ?_) (fun hq => ?_)
  · rw [if_pos hq] at h
    exact tB_Ob_slot_17 Cx t2 H locs ls hP hS (lv_sub hl [] rfl) h
  · rw [if_neg hq] at h
    refine lv_iload_n hx hb d_Ob_slot_8 rfl (lv_at hl 2 rfl) ?_
    refine lv_bipush (v := 6) hx hb d_Ob_slot_9 (by decide) ?_
    refine ob_cSi (nA := 2) (As := [.int v2, .int (6 : Int32)]) (rest := []) Cx hl.1 hP hS (fun o ho => c_Ob_isWithin v2 (6 : Int32) ho) ms_Ob_isWithin w_m_Ob_67 rfl (by decide +kernel) ⟨rfl, rfl⟩ ⟨by decide, by decide⟩ (Nat.le_of_ble_eq_true rfl) rfl d_Ob_slot_11 h (fun x11 t11 H locs h hP hS => ?_)
    refine lv_if_ne (tgt := 19) hx hb d_Ob_slot_14 (by decide) (fun hq => ?_) (fun hq => ?_)
    · rw [if_pos hq] at h
      refine lv_aload_n hx hb d_Ob_slot_19 rfl (lv_at hl 0 rfl) ?_
      refine ob_getR (k := 1) Cx hP ck_10 rfl w_f_Ob_21 d_Ob_slot_20 h (fun n20 h => ?_)
      refine ob_getR (k := 0) Cx hP ck_7 rfl w_f_Ob_47 d_Ob_slot_23 h (fun n23 h => ?_)
      refine lv_iload_n hx hb d_Ob_slot_26 rfl (lv_at hl 1 rfl) ?_
      refine ob_aldR (kd := 15) Cx hP (by decide) rfl d_Ob_slot_27 h (fun n27 h => ?_)
      refine lv_iload_n hx hb d_Ob_slot_28 rfl (lv_at hl 2 rfl) ?_
      refine ob_cVi (nA := 1) (As := [.int v2]) (rest := []) Cx hl.1 hP hS (fun o ho => c_Sl_tellOf n27 v2 ho) (fun o ho => g_Sl_tellOf n27 v2 ho) (by decide) (rfl : ob_cl[6]? = _) mv_Sl_tellOf w_m_Ob_147 rfl (by decide +kernel) ⟨rfl, rfl⟩ ⟨by decide, by decide⟩ (Nat.le_of_ble_eq_true rfl) rfl d_Ob_slot_29 h (fun x29 t29 H locs h hP hS => ?_)
      exact ob_iret Cx hP hS d_Ob_slot_32 h
    · rw [if_neg (fun z => z hq)] at h
      exact tB_Ob_slot_17 Cx t11 H locs ls hP hS (lv_sub hl [] rfl) h
set_option maxHeartbeats 4000000 in
set_option maxRecDepth 100000 in
theorem tB_Ob_body_23 {p : Program} {l : Launch} {e : Env} {R : Room} {s : State} {m : MethodId} {args : Array Value} {below : List Frame} {meth : Method} {c : Code} {b : Nat} {D : va_G} {cA : Nat → ClassId} {adK adV : Nat → Nat} {out : (Int32 × ob_S)} (Cx : ob_C p R s m args meth c cb_Ob_body 3 "ObservedBlocks" (some .int) b D cA adK adV 2 42) : ∀ (t : ob_S) (H : Heap) (locs : List Loc) (ls : Array Slot), ob_H b D cA t H → va_S (ob_A b) s.heap H locs → lv_has ls 3 [] → B_Ob_body_23 t = some out → W p l e R s m args below meth c H locs 0 0 (MQ below (ob_Qi b D cA out) args s 0 0 (ob_A b)) (F0 m 23 ls []) := by
  have hx := Cx.1.1
  have hb := Cx.1.2.1
  intro t H locs ls  hP hS hl h
  unfold B_Ob_body_23 at h
  refine lv_iconst (v := -1) hx hb d_Ob_body_23 (by decide) ?_
  exact ob_iret Cx hP hS d_Ob_body_24 h
theorem g_Ob_body (v0 : Nat) (v1 : Int32) (v2 : Int32) {t : ob_S} {out : (Int32 × ob_S)} (h : X_Ob_body v0 v1 v2 t = some out) : v0 < ob_n t ∧ ob_k t v0 = 10 := by
  unfold X_Ob_body ob_this at h
  by_cases q : v0 < ob_n t ∧ ob_k t v0 = 10
  · exact q
  · rw [if_neg q] at h
    cases h
set_option maxHeartbeats 4000000 in
set_option maxRecDepth 100000 in
theorem c_Ob_body {l : Launch} {b : Nat} {D : va_G} {cA : Nat → ClassId} {adK adV : Nat → Nat} (v0 : Nat) (v1 : Int32) (v2 : Int32) {t : ob_S} {out : (Int32 × ob_S)} (h : X_Ob_body v0 v1 v2 t = some out) : Met l y_Ob_body (Cond.code y_Ob_body cb_Ob_body 3 (some .int) :: ob_T) { frames := 2, cells := 0, slots := 0, locals := 42 } (ob_Pre b D cA adK adV [.ref (b + v0), .int v1, .int v2] t) (ob_Qi b D cA out) 0 0 (ob_A b) := by
  refine ob_met (by decide) (Nat.le_of_ble_eq_true rfl) ?_
  intro p e R s m args below meth c ls Cx hP hS hl
  have hl : lv_has ls 3 [(0, .ref (b + v0)), (1, .int v1), (2, .int v2)] := hl
  have hx := Cx.1.1
  have hb := Cx.1.2.1
  have hg := g_Ob_body v0 v1 v2 h
  unfold X_Ob_body ob_this at h
  rw [if_pos hg] at h
  obtain ⟨H, hH⟩ : ∃ H, H = s.heap := ⟨_, rfl⟩
  obtain ⟨locs, hL⟩ : ∃ locs : List Loc, locs = [] := ⟨_, rfl⟩
  rw [← hH] at hP
  have hS : va_S (ob_A b) s.heap H locs := by rw [hH, hL]; exact hS
  suffices hW : W p l e R s m args below meth c H locs 0 0 (MQ below (ob_Qi b D cA out) args s 0 0 (ob_A b)) (F0 m 0 ls []) by rw [hH, hL] at hW; exact hW
  refine lv_iload_n hx hb d_Ob_body_0 rfl (lv_at hl 1 rfl) ?_
  refine lv_iconst (v := 1) hx hb d_Ob_body_1 (by decide) ?_
  refine ob_cSi (nA := 2) (As := [.int v1, .int (1 : Int32)]) (rest := []) Cx hl.1 hP hS (fun o ho => c_Ob_isWithin v1 (1 : Int32) ho) ms_Ob_isWithin w_m_Ob_67 rfl (by decide +kernel) ⟨rfl, rfl⟩ ⟨by decide, by decide⟩ (Nat.le_of_ble_eq_true rfl) rfl d_Ob_body_2 h (fun x2 t2 H locs h hP hS => ?_)
  refine lv_if_eq (tgt := 23) hx hb d_Ob_body_5 (by decide) (fun hq => ?_) (fun hq => ?_)
  · rw [if_pos hq] at h
    exact tB_Ob_body_23 Cx t2 H locs ls hP hS (lv_sub hl [] rfl) h
  · rw [if_neg hq] at h
    refine lv_aload_n hx hb d_Ob_body_8 rfl (lv_at hl 0 rfl) ?_
    refine ob_getR (k := 1) Cx hP ck_10 rfl w_f_Ob_21 d_Ob_body_9 h (fun n9 h => ?_)
    refine ob_getR (k := 0) Cx hP ck_7 rfl w_f_Ob_47 d_Ob_body_12 h (fun n12 h => ?_)
    refine lv_iload_n hx hb d_Ob_body_15 rfl (lv_at hl 1 rfl) ?_
    refine ob_aldR (kd := 15) Cx hP (by decide) rfl d_Ob_body_16 h (fun n16 h => ?_)
    refine ob_getI (k := 2) Cx hP ck_6 rfl w_f_Ob_51 d_Ob_body_17 h (fun x17 h => ?_)
    refine lv_if_ne (tgt := 25) hx hb d_Ob_body_20 (by decide) (fun hq => ?_) (fun hq => ?_)
    · rw [if_pos hq] at h
      refine lv_aload_n hx hb d_Ob_body_25 rfl (lv_at hl 0 rfl) ?_
      refine ob_getR (k := 1) Cx hP ck_10 rfl w_f_Ob_21 d_Ob_body_26 h (fun n26 h => ?_)
      refine ob_getR (k := 0) Cx hP ck_7 rfl w_f_Ob_47 d_Ob_body_29 h (fun n29 h => ?_)
      refine lv_iload_n hx hb d_Ob_body_32 rfl (lv_at hl 1 rfl) ?_
      refine ob_aldR (kd := 15) Cx hP (by decide) rfl d_Ob_body_33 h (fun n33 h => ?_)
      refine ob_getR (k := 0) Cx hP ck_6 rfl w_f_Ob_71 d_Ob_body_34 h (fun n34 h => ?_)
      refine lv_iload_n hx hb d_Ob_body_37 rfl (lv_at hl 2 rfl) ?_
      refine ob_cVi (nA := 1) (As := [.int v2]) (rest := []) Cx hl.1 hP hS (fun o ho => c_By_byteOrBad n34 v2 ho) (fun o ho => g_By_byteOrBad n34 v2 ho) (by decide) (rfl : ob_cl[0]? = _) mv_By_byteOrBad w_m_Ob_143 rfl (by decide +kernel) ⟨rfl, rfl⟩ ⟨by decide, by decide⟩ (Nat.le_of_ble_eq_true rfl) rfl d_Ob_body_38 h (fun x38 t38 H locs h hP hS => ?_)
      exact ob_iret Cx hP hS d_Ob_body_41 h
    · rw [if_neg (fun z => z hq)] at h
      exact tB_Ob_body_23 Cx t2 H locs ls hP hS (lv_sub hl [] rfl) h
theorem g_Ob_content (v0 : Nat) (v1 : Int32) (v2 : Int32) {t : ob_S} {out : (Int32 × ob_S)} (h : X_Ob_content v0 v1 v2 t = some out) : v0 < ob_n t ∧ ob_k t v0 = 10 := by
  unfold X_Ob_content ob_this at h
  by_cases q : v0 < ob_n t ∧ ob_k t v0 = 10
  · exact q
  · rw [if_neg q] at h
    cases h
set_option maxHeartbeats 4000000 in
set_option maxRecDepth 100000 in
theorem c_Ob_content {l : Launch} {b : Nat} {D : va_G} {cA : Nat → ClassId} {adK adV : Nat → Nat} (v0 : Nat) (v1 : Int32) (v2 : Int32) {t : ob_S} {out : (Int32 × ob_S)} (h : X_Ob_content v0 v1 v2 t = some out) : Met l y_Ob_content (Cond.code y_Ob_content cb_Ob_content 4 (some .int) :: ob_T) { frames := 2, cells := 0, slots := 0, locals := 42 } (ob_Pre b D cA adK adV [.ref (b + v0), .int v1, .int v2] t) (ob_Qi b D cA out) 0 0 (ob_A b) := by
  refine ob_met (by decide) (Nat.le_of_ble_eq_true rfl) ?_
  intro p e R s m args below meth c ls Cx hP hS hl
  have hl : lv_has ls 4 [(0, .ref (b + v0)), (1, .int v1), (2, .int v2)] := hl
  have hx := Cx.1.1
  have hb := Cx.1.2.1
  have hg := g_Ob_content v0 v1 v2 h
  unfold X_Ob_content ob_this at h
  rw [if_pos hg] at h
  obtain ⟨H, hH⟩ : ∃ H, H = s.heap := ⟨_, rfl⟩
  obtain ⟨locs, hL⟩ : ∃ locs : List Loc, locs = [] := ⟨_, rfl⟩
  rw [← hH] at hP
  have hS : va_S (ob_A b) s.heap H locs := by rw [hH, hL]; exact hS
  suffices hW : W p l e R s m args below meth c H locs 0 0 (MQ below (ob_Qi b D cA out) args s 0 0 (ob_A b)) (F0 m 0 ls []) by rw [hH, hL] at hW; exact hW
  refine lv_iload_n hx hb d_Ob_content_0 rfl (lv_at hl 1 rfl) ?_
  refine lv_iconst (v := 3) hx hb d_Ob_content_1 (by decide) ?_
  refine ob_cSi (nA := 2) (As := [.int v1, .int (3 : Int32)]) (rest := []) Cx hl.1 hP hS (fun o ho => c_Ob_isWithin v1 (3 : Int32) ho) ms_Ob_isWithin w_m_Ob_67 rfl (by decide +kernel) ⟨rfl, rfl⟩ ⟨by decide, by decide⟩ (Nat.le_of_ble_eq_true rfl) rfl d_Ob_content_2 h (fun x2 t2 H locs h hP hS => ?_)
  refine lv_if_ne (tgt := 10) hx hb d_Ob_content_5 (by decide) (fun hq => ?_) (fun hq => ?_)
  · rw [if_pos hq] at h
    refine lv_aload_n hx hb d_Ob_content_10 rfl (lv_at hl 0 rfl) ?_
    refine ob_getR (k := 2) Cx hP ck_10 rfl w_f_Ob_28 d_Ob_content_11 h (fun n11 h => ?_)
    refine ob_getR (k := 0) Cx hP ck_9 rfl w_f_Ob_84 d_Ob_content_14 h (fun n14 h => ?_)
    refine lv_iload_n hx hb d_Ob_content_17 rfl (lv_at hl 1 rfl) ?_
    refine ob_aldR (kd := 14) Cx hP (by decide) rfl d_Ob_content_18 h (fun n18 h => ?_)
    refine lv_astore_n (lv' := [(3, .ref (b + n18)), (0, .ref (b + v0)), (1, .int v1), (2, .int v2)]) hx hb d_Ob_content_19 rfl hl (by decide) rfl (fun ls hl => ?_)
    refine lv_iload_n hx hb d_Ob_content_20 rfl (lv_at hl 3 rfl) ?_
    refine lv_iconst (v := -1) hx hb d_Ob_content_21 (by decide) ?_
    refine lv_icmp_ne (tgt := 32) hx hb d_Ob_content_22 (by decide) (fun hq => ?_) (fun hq => ?_)
    · rw [if_pos hq] at h
      refine lv_aload_n hx hb d_Ob_content_32 rfl (lv_at hl 0 rfl) ?_
      refine lv_iload_n hx hb d_Ob_content_33 rfl (lv_at hl 3 rfl) ?_
      refine ob_cVi (nA := 1) (As := [.int v2]) (rest := []) Cx hl.1 hP hS (fun o ho => c_By_byteOrBad n18 v2 ho) (fun o ho => g_By_byteOrBad n18 v2 ho) (by decide) (rfl : ob_cl[0]? = _) mv_By_byteOrBad w_m_Ob_143 rfl (by decide +kernel) ⟨rfl, rfl⟩ ⟨by decide, by decide⟩ (Nat.le_of_ble_eq_true rfl) rfl d_Ob_content_34 h (fun x34 t34 H locs h hP hS => ?_)
      exact ob_iret Cx hP hS d_Ob_content_37 h
    · rw [if_neg (fun z => z hq)] at h
      refine lv_aload_n hx hb d_Ob_content_25 rfl (lv_at hl 0 rfl) ?_
      refine ob_getI (k := 1) Cx hP ck_0 rfl w_f_Ob_140 d_Ob_content_26 h (fun x26 h => ?_)
      refine lv_goto (tgt := 37) hx hb d_Ob_content_29 (by decide) ?_
      exact ob_iret Cx hP hS d_Ob_content_37 h
  · rw [if_neg (fun z => z hq)] at h
    refine lv_iconst (v := -1) hx hb d_Ob_content_8 (by decide) ?_
    exact ob_iret Cx hP hS d_Ob_content_9 h
set_option maxHeartbeats 4000000 in
set_option maxRecDepth 100000 in
theorem tB_Se_lengthOfParts_4 {p : Program} {l : Launch} {e : Env} {R : Room} {s : State} {m : MethodId} {args : Array Value} {below : List Frame} {meth : Method} {c : Code} {b : Nat} {D : va_G} {cA : Nat → ClassId} {adK adV : Nat → Nat} {out : (Int32 × ob_S)} (Cx : ob_C p R s m args meth c cb_Se_lengthOfParts 3 "ObservedBlocks$Server" (some .int) b D cA adK adV 0 0) : ∀ (fu : Nat), ∀ (t : ob_S) (H : Heap) (locs : List Loc) (ls : Array Slot) (v0 : Nat) (v1 : Int32) (v2 : Int32), ob_H b D cA t H → va_S (ob_A b) s.heap H locs → lv_has ls 3 [(0, .ref (b + v0)), (1, .int v1), (2, .int v2)] → B_Se_lengthOfParts_4 fu v0 v1 v2 t = some out → W p l e R s m args below meth c H locs 0 0 (MQ below (ob_Qi b D cA out) args s 0 0 (ob_A b)) (F0 m 4 ls []) := by
  have hx := Cx.1.1
  have hb := Cx.1.2.1
  intro fu
  induction fu with
  | zero =>
    intro t H locs ls v0 v1 v2 hP hS hl h
    cases h
  | succ fu ih =>
    intro t H locs ls v0 v1 v2 hP hS hl h
    rw [B_Se_lengthOfParts_4] at h
    refine lv_iload_n hx hb d_Se_lengthOfParts_4 rfl (lv_at hl 2 rfl) ?_
    refine lv_iconst (v := 4) hx hb d_Se_lengthOfParts_5 (by decide) ?_
    refine lv_icmp_ge (tgt := 27) hx hb d_Se_lengthOfParts_6 (by decide) (fun hq => ?_) (fun hq => ?_)
    · rw [if_pos hq] at h
      refine lv_iload_n hx hb d_Se_lengthOfParts_27 rfl (lv_at hl 1 rfl) ?_
      exact ob_iret Cx hP hS d_Se_lengthOfParts_28 h
    · rw [if_neg hq] at h
      refine lv_iload_n hx hb d_Se_lengthOfParts_9 rfl (lv_at hl 1 rfl) ?_
      refine lv_aload_n hx hb d_Se_lengthOfParts_10 rfl (lv_at hl 0 rfl) ?_
      refine ob_getR (k := 4) Cx hP ck_9 rfl w_f_Se_17 d_Se_lengthOfParts_11 h (fun n11 h => ?_)
      refine lv_iload_n hx hb d_Se_lengthOfParts_14 rfl (lv_at hl 2 rfl) ?_
      refine ob_aldR (kd := 14) Cx hP (by decide) rfl d_Se_lengthOfParts_15 h (fun n15 h => ?_)
      refine ob_getI (k := 1) Cx hP ck_0 rfl w_f_Se_52 d_Se_lengthOfParts_16 h (fun x16 h => ?_)
      refine lv_iadd hx hb d_Se_lengthOfParts_19 ?_
      refine lv_istore_n (lv' := [(1, .int (v1 + x16)), (0, .ref (b + v0)), (2, .int v2)]) hx hb d_Se_lengthOfParts_20 rfl hl (by decide) rfl (fun ls hl => ?_)
      refine lv_iinc (v := (v2 + (1 : Int32))) (lv' := [(2, .int (v2 + (1 : Int32))), (1, .int (v1 + x16)), (0, .ref (b + v0))]) hx hb d_Se_lengthOfParts_21 hl (k := 2) rfl rfl (by decide) rfl (fun ls hl => ?_)
      refine lv_goto (tgt := 4) hx hb d_Se_lengthOfParts_24 (by decide) ?_
      exact ih t H locs ls v0 (v1 + x16) (v2 + (1 : Int32)) hP hS (lv_sub hl [2, 1, 0] rfl) h
theorem g_Se_lengthOfParts (v0 : Nat) {t : ob_S} {out : (Int32 × ob_S)} (h : X_Se_lengthOfParts v0 t = some out) : v0 < ob_n t ∧ ob_k t v0 = 9 := by
  unfold X_Se_lengthOfParts ob_this at h
  by_cases q : v0 < ob_n t ∧ ob_k t v0 = 9
  · exact q
  · rw [if_neg q] at h
    cases h
set_option maxHeartbeats 4000000 in
set_option maxRecDepth 100000 in
theorem c_Se_lengthOfParts {l : Launch} {b : Nat} {D : va_G} {cA : Nat → ClassId} {adK adV : Nat → Nat} (v0 : Nat) {t : ob_S} {out : (Int32 × ob_S)} (h : X_Se_lengthOfParts v0 t = some out) : Met l y_Se_lengthOfParts (Cond.code y_Se_lengthOfParts cb_Se_lengthOfParts 3 (some .int) :: ob_T) { frames := 0, cells := 0, slots := 0, locals := 0 } (ob_Pre b D cA adK adV [.ref (b + v0)] t) (ob_Qi b D cA out) 0 0 (ob_A b) := by
  refine ob_met (by decide) (Nat.le_of_ble_eq_true rfl) ?_
  intro p e R s m args below meth c ls Cx hP hS hl
  have hl : lv_has ls 3 [(0, .ref (b + v0))] := hl
  have hx := Cx.1.1
  have hb := Cx.1.2.1
  have hg := g_Se_lengthOfParts v0 h
  unfold X_Se_lengthOfParts ob_this at h
  rw [if_pos hg] at h
  obtain ⟨H, hH⟩ : ∃ H, H = s.heap := ⟨_, rfl⟩
  obtain ⟨locs, hL⟩ : ∃ locs : List Loc, locs = [] := ⟨_, rfl⟩
  rw [← hH] at hP
  have hS : va_S (ob_A b) s.heap H locs := by rw [hH, hL]; exact hS
  suffices hW : W p l e R s m args below meth c H locs 0 0 (MQ below (ob_Qi b D cA out) args s 0 0 (ob_A b)) (F0 m 0 ls []) by rw [hH, hL] at hW; exact hW
  refine lv_iconst (v := 0) hx hb d_Se_lengthOfParts_0 (by decide) ?_
  refine lv_istore_n (lv' := [(1, .int (0 : Int32)), (0, .ref (b + v0))]) hx hb d_Se_lengthOfParts_1 rfl hl (by decide) rfl (fun ls hl => ?_)
  refine lv_iconst (v := 0) hx hb d_Se_lengthOfParts_2 (by decide) ?_
  refine lv_istore_n (lv' := [(2, .int (0 : Int32)), (1, .int (0 : Int32)), (0, .ref (b + v0))]) hx hb d_Se_lengthOfParts_3 rfl hl (by decide) rfl (fun ls hl => ?_)
  exact tB_Se_lengthOfParts_4 Cx ob_fu t H locs ls v0 (0 : Int32) (0 : Int32) hP hS (lv_sub hl [2, 1, 0] rfl) h
theorem g_Ob_server (v0 : Nat) (v1 : Int32) {t : ob_S} {out : (Int32 × ob_S)} (h : X_Ob_server v0 v1 t = some out) : v0 < ob_n t ∧ ob_k t v0 = 10 := by
  unfold X_Ob_server ob_this at h
  by_cases q : v0 < ob_n t ∧ ob_k t v0 = 10
  · exact q
  · rw [if_neg q] at h
    cases h
set_option maxHeartbeats 4000000 in
set_option maxRecDepth 100000 in
theorem c_Ob_server {l : Launch} {b : Nat} {D : va_G} {cA : Nat → ClassId} {adK adV : Nat → Nat} (v0 : Nat) (v1 : Int32) {t : ob_S} {out : (Int32 × ob_S)} (h : X_Ob_server v0 v1 t = some out) : Met l y_Ob_server (Cond.code y_Ob_server cb_Ob_server 2 (some .int) :: ob_T) { frames := 1, cells := 0, slots := 0, locals := 22 } (ob_Pre b D cA adK adV [.ref (b + v0), .int v1] t) (ob_Qi b D cA out) 0 0 (ob_A b) := by
  refine ob_met (by decide) (Nat.le_of_ble_eq_true rfl) ?_
  intro p e R s m args below meth c ls Cx hP hS hl
  have hl : lv_has ls 2 [(0, .ref (b + v0)), (1, .int v1)] := hl
  have hx := Cx.1.1
  have hb := Cx.1.2.1
  have hg := g_Ob_server v0 v1 h
  unfold X_Ob_server ob_this at h
  rw [if_pos hg] at h
  obtain ⟨H, hH⟩ : ∃ H, H = s.heap := ⟨_, rfl⟩
  obtain ⟨locs, hL⟩ : ∃ locs : List Loc, locs = [] := ⟨_, rfl⟩
  rw [← hH] at hP
  have hS : va_S (ob_A b) s.heap H locs := by rw [hH, hL]; exact hS
  suffices hW : W p l e R s m args below meth c H locs 0 0 (MQ below (ob_Qi b D cA out) args s 0 0 (ob_A b)) (F0 m 0 ls []) by rw [hH, hL] at hW; exact hW
  refine lv_iload_n hx hb d_Ob_server_0 rfl (lv_at hl 1 rfl) ?_
  by_cases hc1_0 : v1 = (0 : Int32)
  · rw [if_pos hc1_0] at h
    refine lv_tableIn (tgt := 32) (off := 31) hx hb d_Ob_server_1 (by rw [hc1_0]; decide) (by rw [hc1_0]; decide) (by rw [hc1_0]; decide) (by decide) ?_
    refine lv_aload_n hx hb d_Ob_server_32 rfl (lv_at hl 0 rfl) ?_
    refine ob_getR (k := 2) Cx hP ck_10 rfl w_f_Ob_28 d_Ob_server_33 h (fun n33 h => ?_)
    refine ob_getI (k := 1) Cx hP ck_9 rfl w_f_Ob_150 d_Ob_server_36 h (fun x36 h => ?_)
    exact ob_iret Cx hP hS d_Ob_server_39 h
  · rw [if_neg hc1_0] at h
    by_cases hc1_1 : v1 = (1 : Int32)
    · rw [if_pos hc1_1] at h
      refine lv_tableIn (tgt := 40) (off := 39) hx hb d_Ob_server_1 (by rw [hc1_1]; decide) (by rw [hc1_1]; decide) (by rw [hc1_1]; decide) (by decide) ?_
      refine lv_aload_n hx hb d_Ob_server_40 rfl (lv_at hl 0 rfl) ?_
      refine ob_getR (k := 2) Cx hP ck_10 rfl w_f_Ob_28 d_Ob_server_41 h (fun n41 h => ?_)
      refine ob_getI (k := 2) Cx hP ck_9 rfl w_f_Ob_153 d_Ob_server_44 h (fun x44 h => ?_)
      exact ob_iret Cx hP hS d_Ob_server_47 h
    · rw [if_neg hc1_1] at h
      by_cases hc1_2 : v1 = (2 : Int32)
      · rw [if_pos hc1_2] at h
        refine lv_tableIn (tgt := 48) (off := 47) hx hb d_Ob_server_1 (by rw [hc1_2]; decide) (by rw [hc1_2]; decide) (by rw [hc1_2]; decide) (by decide) ?_
        refine lv_aload_n hx hb d_Ob_server_48 rfl (lv_at hl 0 rfl) ?_
        refine ob_getR (k := 2) Cx hP ck_10 rfl w_f_Ob_28 d_Ob_server_49 h (fun n49 h => ?_)
        refine ob_getI (k := 3) Cx hP ck_9 rfl w_f_Ob_156 d_Ob_server_52 h (fun x52 h => ?_)
        exact ob_iret Cx hP hS d_Ob_server_55 h
      · rw [if_neg hc1_2] at h
        by_cases hc1_3 : v1 = (3 : Int32)
        · rw [if_pos hc1_3] at h
          refine lv_tableIn (tgt := 56) (off := 55) hx hb d_Ob_server_1 (by rw [hc1_3]; decide) (by rw [hc1_3]; decide) (by rw [hc1_3]; decide) (by decide) ?_
          refine lv_aload_n hx hb d_Ob_server_56 rfl (lv_at hl 0 rfl) ?_
          refine ob_getR (k := 2) Cx hP ck_10 rfl w_f_Ob_28 d_Ob_server_57 h (fun n57 h => ?_)
          refine ob_cVi (nA := 0) (As := []) (rest := []) Cx hl.1 hP hS (fun o ho => c_Se_lengthOfParts n57 ho) (fun o ho => g_Se_lengthOfParts n57 ho) (by decide) (rfl : ob_cl[9]? = _) mv_Se_lengthOfParts w_m_Ob_159 rfl (by decide +kernel) ⟨rfl, rfl⟩ ⟨by decide, by decide⟩ (Nat.le_of_ble_eq_true rfl) rfl d_Ob_server_60 h (fun x60 t60 H locs h hP hS => ?_)
          exact ob_iret Cx hP hS d_Ob_server_63 h
        · rw [if_neg hc1_3] at h
          have nhc1_0 := lv_neT hc1_0 (show ((0 : Int32)).toInt = 0 by decide)
          have nhc1_1 := lv_neT hc1_1 (show ((1 : Int32)).toInt = 1 by decide)
          have nhc1_2 := lv_neT hc1_2 (show ((2 : Int32)).toInt = 2 by decide)
          have nhc1_3 := lv_neT hc1_3 (show ((3 : Int32)).toInt = 3 by decide)
          refine lv_tableOut (tgt := 64) hx hb d_Ob_server_1 (by omega) (by decide) ?_
          refine lv_iconst (v := -1) hx hb d_Ob_server_64 (by decide) ?_
          exact ob_iret Cx hP hS d_Ob_server_65 h
theorem g_Mo_write (v0 : Nat) (v1 : Int32) {t : ob_S} {out : ob_S} (h : X_Mo_write v0 v1 t = some out) : v0 < ob_n t ∧ ob_k t v0 = 11 := by
  unfold X_Mo_write ob_this at h
  by_cases q : v0 < ob_n t ∧ ob_k t v0 = 11
  · exact q
  · rw [if_neg q] at h
    cases h
set_option maxHeartbeats 4000000 in
set_option maxRecDepth 100000 in
theorem c_Mo_write {l : Launch} {b : Nat} {D : va_G} {cA : Nat → ClassId} {adK adV : Nat → Nat} (v0 : Nat) (v1 : Int32) {t : ob_S} {out : ob_S} (h : X_Mo_write v0 v1 t = some out) : Met l y_Mo_write (Cond.code y_Mo_write cb_Mo_write 2 none :: ob_T) { frames := 0, cells := 0, slots := 0, locals := 0 } (ob_Pre b D cA adK adV [.ref (b + v0), .int v1] t) (ob_Qv b D cA out) 0 0 (ob_A b) := by
  refine ob_met (by decide) (Nat.le_of_ble_eq_true rfl) ?_
  intro p e R s m args below meth c ls Cx hP hS hl
  have hl : lv_has ls 2 [(0, .ref (b + v0)), (1, .int v1)] := hl
  have hx := Cx.1.1
  have hb := Cx.1.2.1
  have hg := g_Mo_write v0 v1 h
  unfold X_Mo_write ob_this at h
  rw [if_pos hg] at h
  obtain ⟨H, hH⟩ : ∃ H, H = s.heap := ⟨_, rfl⟩
  obtain ⟨locs, hL⟩ : ∃ locs : List Loc, locs = [] := ⟨_, rfl⟩
  rw [← hH] at hP
  have hS : va_S (ob_A b) s.heap H locs := by rw [hH, hL]; exact hS
  suffices hW : W p l e R s m args below meth c H locs 0 0 (MQ below (ob_Qv b D cA out) args s 0 0 (ob_A b)) (F0 m 0 ls []) by rw [hH, hL] at hW; exact hW
  refine lv_aload_n hx hb d_Mo_write_0 rfl (lv_at hl 0 rfl) ?_
  refine ob_getR (k := 44) Cx hP ck_11 rfl w_f_Mo_126 d_Mo_write_1 h (fun n1 h => ?_)
  refine lv_aload_n hx hb d_Mo_write_4 rfl (lv_at hl 0 rfl) ?_
  refine ob_getI (k := 45) Cx hP ck_11 rfl w_f_Mo_138 d_Mo_write_5 h (fun x5 h => ?_)
  refine lv_iload_n hx hb d_Mo_write_8 rfl (lv_at hl 1 rfl) ?_
  refine ob_astI Cx hP hS d_Mo_write_9 h (fun t9 H locs h hP hS => ?_)
  refine lv_aload_n hx hb d_Mo_write_10 rfl (lv_at hl 0 rfl) ?_
  refine lv_dup hx hb d_Mo_write_11 rfl ?_
  refine ob_getI (k := 45) Cx hP ck_11 rfl w_f_Mo_138 d_Mo_write_12 h (fun x12 h => ?_)
  refine lv_iconst (v := 1) hx hb d_Mo_write_15 (by decide) ?_
  refine lv_iadd hx hb d_Mo_write_16 ?_
  refine ob_putI (k := 45) Cx hP hS ck_11 rfl rfl rfl w_f_Mo_138 d_Mo_write_17 h (fun t17 H locs h hP hS => ?_)
  exact ob_vret Cx hP hS d_Mo_write_20 h
set_option maxHeartbeats 4000000 in
set_option maxRecDepth 100000 in
theorem tB_Mo_begin_27 {p : Program} {l : Launch} {e : Env} {R : Room} {s : State} {m : MethodId} {args : Array Value} {below : List Frame} {meth : Method} {c : Code} {b : Nat} {D : va_G} {cA : Nat → ClassId} {adK adV : Nat → Nat} {out : ob_S} (Cx : ob_C p R s m args meth c cb_Mo_begin 4 "ObservedBlocksModel" none b D cA adK adV 1 21) : ∀ (t : ob_S) (H : Heap) (locs : List Loc) (ls : Array Slot) (v0 : Nat) (v2 : Int32) (v3 : Int32) (s0 : Int32) (s1 : Int32) (s2 : Nat), ob_H b D cA t H → va_S (ob_A b) s.heap H locs → lv_has ls 4 [(0, .ref (b + v0)), (2, .int v2), (3, .int v3)] → B_Mo_begin_27 v0 v2 v3 s0 s1 s2 t = some out → W p l e R s m args below meth c H locs 0 0 (MQ below (ob_Qv b D cA out) args s 0 0 (ob_A b)) (F0 m 27 ls [.int s0, .int s1, .ref (b + s2)]) := by
  have hx := Cx.1.1
  have hb := Cx.1.2.1
  intro t H locs ls v0 v2 v3 s0 s1 s2 hP hS hl h
  unfold B_Mo_begin_27 at h
  refine lv_iadd hx hb d_Mo_begin_27 ?_
  refine ob_cVv (nA := 1) (As := [.int (s1 + s0)]) (rest := []) Cx hl.1 hP hS (fun o ho => c_Mo_write s2 (s1 + s0) ho) (fun o ho => g_Mo_write s2 (s1 + s0) ho) (by decide) (rfl : ob_cl[11]? = _) mv_Mo_write w_m_Mo_144 rfl (by decide +kernel) ⟨rfl, rfl⟩ ⟨by decide, by decide⟩ (Nat.le_of_ble_eq_true rfl) rfl d_Mo_begin_28 h (fun t28 H locs h hP hS => ?_)
  refine lv_aload_n hx hb d_Mo_begin_31 rfl (lv_at hl 0 rfl) ?_
  refine lv_iload_n hx hb d_Mo_begin_32 rfl (lv_at hl 1 rfl) ?_
  refine ob_cVv (nA := 1) (As := [.int v2]) (rest := []) Cx hl.1 hP hS (fun o ho => c_Mo_write v0 v2 ho) (fun o ho => g_Mo_write v0 v2 ho) (by decide) (rfl : ob_cl[11]? = _) mv_Mo_write w_m_Mo_144 rfl (by decide +kernel) ⟨rfl, rfl⟩ ⟨by decide, by decide⟩ (Nat.le_of_ble_eq_true rfl) rfl d_Mo_begin_33 h (fun t33 H locs h hP hS => ?_)
  refine lv_aload_n hx hb d_Mo_begin_36 rfl (lv_at hl 0 rfl) ?_
  refine lv_iload_n hx hb d_Mo_begin_37 rfl (lv_at hl 2 rfl) ?_
  refine lv_sipush (v := 256) hx hb d_Mo_begin_38 (by decide) ?_
  refine lv_idiv hx hb d_Mo_begin_41 (by decide) ?_
  refine ob_cVv (nA := 1) (As := [.int (v3 / (256 : Int32))]) (rest := []) Cx hl.1 hP hS (fun o ho => c_Mo_write v0 (v3 / (256 : Int32)) ho) (fun o ho => g_Mo_write v0 (v3 / (256 : Int32)) ho) (by decide) (rfl : ob_cl[11]? = _) mv_Mo_write w_m_Mo_144 rfl (by decide +kernel) ⟨rfl, rfl⟩ ⟨by decide, by decide⟩ (Nat.le_of_ble_eq_true rfl) rfl d_Mo_begin_42 h (fun t42 H locs h hP hS => ?_)
  refine lv_aload_n hx hb d_Mo_begin_45 rfl (lv_at hl 0 rfl) ?_
  refine lv_iload_n hx hb d_Mo_begin_46 rfl (lv_at hl 2 rfl) ?_
  refine lv_sipush (v := 256) hx hb d_Mo_begin_47 (by decide) ?_
  refine lv_irem hx hb d_Mo_begin_50 (by decide) ?_
  refine ob_cVv (nA := 1) (As := [.int (v3 - v3 / (256 : Int32) * (256 : Int32))]) (rest := []) Cx hl.1 hP hS (fun o ho => c_Mo_write v0 (v3 - v3 / (256 : Int32) * (256 : Int32)) ho) (fun o ho => g_Mo_write v0 (v3 - v3 / (256 : Int32) * (256 : Int32)) ho) (by decide) (rfl : ob_cl[11]? = _) mv_Mo_write w_m_Mo_144 rfl (by decide +kernel) ⟨rfl, rfl⟩ ⟨by decide, by decide⟩ (Nat.le_of_ble_eq_true rfl) rfl d_Mo_begin_51 h (fun t51 H locs h hP hS => ?_)
  exact ob_vret Cx hP hS d_Mo_begin_54 h
theorem g_Mo_begin (v0 : Nat) (v1 : Int32) (v2 : Int32) (v3 : Int32) {t : ob_S} {out : ob_S} (h : X_Mo_begin v0 v1 v2 v3 t = some out) : v0 < ob_n t ∧ ob_k t v0 = 11 := by
  unfold X_Mo_begin ob_this at h
  by_cases q : v0 < ob_n t ∧ ob_k t v0 = 11
  · exact q
  · rw [if_neg q] at h
    cases h
set_option maxHeartbeats 4000000 in
set_option maxRecDepth 100000 in
theorem c_Mo_begin {l : Launch} {b : Nat} {D : va_G} {cA : Nat → ClassId} {adK adV : Nat → Nat} (v0 : Nat) (v1 : Int32) (v2 : Int32) (v3 : Int32) {t : ob_S} {out : ob_S} (h : X_Mo_begin v0 v1 v2 v3 t = some out) : Met l y_Mo_begin (Cond.code y_Mo_begin cb_Mo_begin 4 none :: ob_T) { frames := 1, cells := 0, slots := 0, locals := 21 } (ob_Pre b D cA adK adV [.ref (b + v0), .int v1, .int v2, .int v3] t) (ob_Qv b D cA out) 0 0 (ob_A b) := by
  refine ob_met (by decide) (Nat.le_of_ble_eq_true rfl) ?_
  intro p e R s m args below meth c ls Cx hP hS hl
  have hl : lv_has ls 4 [(0, .ref (b + v0)), (1, .int v1), (2, .int v2), (3, .int v3)] := hl
  have hx := Cx.1.1
  have hb := Cx.1.2.1
  have hg := g_Mo_begin v0 v1 v2 v3 h
  unfold X_Mo_begin ob_this at h
  rw [if_pos hg] at h
  obtain ⟨H, hH⟩ : ∃ H, H = s.heap := ⟨_, rfl⟩
  obtain ⟨locs, hL⟩ : ∃ locs : List Loc, locs = [] := ⟨_, rfl⟩
  rw [← hH] at hP
  have hS : va_S (ob_A b) s.heap H locs := by rw [hH, hL]; exact hS
  suffices hW : W p l e R s m args below meth c H locs 0 0 (MQ below (ob_Qv b D cA out) args s 0 0 (ob_A b)) (F0 m 0 ls []) by rw [hH, hL] at hW; exact hW
  refine lv_aload_n hx hb d_Mo_begin_0 rfl (lv_at hl 0 rfl) ?_
  refine lv_iconst (v := 0) hx hb d_Mo_begin_1 (by decide) ?_
  refine ob_putI (k := 45) Cx hP hS ck_11 rfl rfl rfl w_f_Mo_138 d_Mo_begin_2 h (fun t2 H locs h hP hS => ?_)
  refine lv_aload_n hx hb d_Mo_begin_5 rfl (lv_at hl 0 rfl) ?_
  refine lv_iconst (v := 0) hx hb d_Mo_begin_6 (by decide) ?_
  refine ob_putI (k := 46) Cx hP hS ck_11 rfl rfl rfl w_f_Mo_141 d_Mo_begin_7 h (fun t7 H locs h hP hS => ?_)
  refine lv_aload_n hx hb d_Mo_begin_10 rfl (lv_at hl 0 rfl) ?_
  refine lv_bipush (v := 64) hx hb d_Mo_begin_11 (by decide) ?_
  refine lv_bipush (v := 16) hx hb d_Mo_begin_13 (by decide) ?_
  refine lv_iload_n hx hb d_Mo_begin_15 rfl (lv_at hl 1 rfl) ?_
  refine lv_imul hx hb d_Mo_begin_16 ?_
  refine lv_iadd hx hb d_Mo_begin_17 ?_
  refine lv_iload_n hx hb d_Mo_begin_18 rfl (lv_at hl 2 rfl) ?_
  refine lv_if_ne (tgt := 26) hx hb d_Mo_begin_19 (by decide) (fun hq => ?_) (fun hq => ?_)
  · rw [if_pos hq] at h
    refine lv_iconst (v := 1) hx hb d_Mo_begin_26 (by decide) ?_
    exact tB_Mo_begin_27 Cx t7 H locs ls v0 v2 v3 (1 : Int32) ((64 : Int32) + ((16 : Int32) * v1)) v0 hP hS (lv_sub hl [0, 2, 3] rfl) h
  · rw [if_neg (fun z => z hq)] at h
    refine lv_iconst (v := 0) hx hb d_Mo_begin_22 (by decide) ?_
    refine lv_goto (tgt := 27) hx hb d_Mo_begin_23 (by decide) ?_
    exact tB_Mo_begin_27 Cx t7 H locs ls v0 v2 v3 (0 : Int32) ((64 : Int32) + ((16 : Int32) * v1)) v0 hP hS (lv_sub hl [0, 2, 3] rfl) h
theorem g_Mo_head (v0 : Nat) (v1 : Int32) (v2 : Int32) {t : ob_S} {out : ob_S} (h : X_Mo_head v0 v1 v2 t = some out) : v0 < ob_n t ∧ ob_k t v0 = 11 := by
  unfold X_Mo_head ob_this at h
  by_cases q : v0 < ob_n t ∧ ob_k t v0 = 11
  · exact q
  · rw [if_neg q] at h
    cases h
set_option maxHeartbeats 4000000 in
set_option maxRecDepth 100000 in
theorem c_Mo_head {l : Launch} {b : Nat} {D : va_G} {cA : Nat → ClassId} {adK adV : Nat → Nat} (v0 : Nat) (v1 : Int32) (v2 : Int32) {t : ob_S} {out : ob_S} (h : X_Mo_head v0 v1 v2 t = some out) : Met l y_Mo_head (Cond.code y_Mo_head cb_Mo_head 4 none :: ob_T) { frames := 1, cells := 0, slots := 0, locals := 21 } (ob_Pre b D cA adK adV [.ref (b + v0), .int v1, .int v2] t) (ob_Qv b D cA out) 0 0 (ob_A b) := by
  refine ob_met (by decide) (Nat.le_of_ble_eq_true rfl) ?_
  intro p e R s m args below meth c ls Cx hP hS hl
  have hl : lv_has ls 4 [(0, .ref (b + v0)), (1, .int v1), (2, .int v2)] := hl
  have hx := Cx.1.1
  have hb := Cx.1.2.1
  have hg := g_Mo_head v0 v1 v2 h
  unfold X_Mo_head ob_this at h
  rw [if_pos hg] at h
  obtain ⟨H, hH⟩ : ∃ H, H = s.heap := ⟨_, rfl⟩
  obtain ⟨locs, hL⟩ : ∃ locs : List Loc, locs = [] := ⟨_, rfl⟩
  rw [← hH] at hP
  have hS : va_S (ob_A b) s.heap H locs := by rw [hH, hL]; exact hS
  suffices hW : W p l e R s m args below meth c H locs 0 0 (MQ below (ob_Qv b D cA out) args s 0 0 (ob_A b)) (F0 m 0 ls []) by rw [hH, hL] at hW; exact hW
  refine lv_iload_n hx hb d_Mo_head_0 rfl (lv_at hl 1 rfl) ?_
  refine lv_aload_n hx hb d_Mo_head_1 rfl (lv_at hl 0 rfl) ?_
  refine ob_getI (k := 46) Cx hP ck_11 rfl w_f_Mo_141 d_Mo_head_2 h (fun x2 h => ?_)
  refine lv_isub hx hb d_Mo_head_5 ?_
  refine lv_istore_n (lv' := [(3, .int (v1 - x2)), (0, .ref (b + v0)), (1, .int v1), (2, .int v2)]) hx hb d_Mo_head_6 rfl hl (by decide) rfl (fun ls hl => ?_)
  refine lv_aload_n hx hb d_Mo_head_7 rfl (lv_at hl 1 rfl) ?_
  refine lv_iload_n hx hb d_Mo_head_8 rfl (lv_at hl 2 rfl) ?_
  refine ob_putI (k := 46) Cx hP hS ck_11 rfl rfl rfl w_f_Mo_141 d_Mo_head_9 h (fun t9 H locs h hP hS => ?_)
  refine lv_iload_n hx hb d_Mo_head_12 rfl (lv_at hl 0 rfl) ?_
  refine lv_bipush (v := 13) hx hb d_Mo_head_13 (by decide) ?_
  refine lv_icmp_ge (tgt := 31) hx hb d_Mo_head_15 (by decide) (fun hq => ?_) (fun hq => ?_)
  · rw [if_pos hq] at h
    refine lv_aload_n hx hb d_Mo_head_31 rfl (lv_at hl 1 rfl) ?_
    refine lv_sipush (v := 208) hx hb d_Mo_head_32 (by decide) ?_
    refine lv_iload_n hx hb d_Mo_head_35 rfl (lv_at hl 3 rfl) ?_
    refine lv_iadd hx hb d_Mo_head_36 ?_
    refine ob_cVv (nA := 1) (As := [.int ((208 : Int32) + v2)]) (rest := []) Cx hl.1 hP hS (fun o ho => c_Mo_write v0 ((208 : Int32) + v2) ho) (fun o ho => g_Mo_write v0 ((208 : Int32) + v2) ho) (by decide) (rfl : ob_cl[11]? = _) mv_Mo_write w_m_Mo_144 rfl (by decide +kernel) ⟨rfl, rfl⟩ ⟨by decide, by decide⟩ (Nat.le_of_ble_eq_true rfl) rfl d_Mo_head_37 h (fun t37 H locs h hP hS => ?_)
    refine lv_aload_n hx hb d_Mo_head_40 rfl (lv_at hl 1 rfl) ?_
    refine lv_iload_n hx hb d_Mo_head_41 rfl (lv_at hl 0 rfl) ?_
    refine lv_bipush (v := 13) hx hb d_Mo_head_42 (by decide) ?_
    refine lv_isub hx hb d_Mo_head_44 ?_
    refine ob_cVv (nA := 1) (As := [.int ((v1 - x2) - (13 : Int32))]) (rest := []) Cx hl.1 hP hS (fun o ho => c_Mo_write v0 ((v1 - x2) - (13 : Int32)) ho) (fun o ho => g_Mo_write v0 ((v1 - x2) - (13 : Int32)) ho) (by decide) (rfl : ob_cl[11]? = _) mv_Mo_write w_m_Mo_144 rfl (by decide +kernel) ⟨rfl, rfl⟩ ⟨by decide, by decide⟩ (Nat.le_of_ble_eq_true rfl) rfl d_Mo_head_45 h (fun t45 H locs h hP hS => ?_)
    exact ob_vret Cx hP hS d_Mo_head_48 h
  · rw [if_neg hq] at h
    refine lv_aload_n hx hb d_Mo_head_18 rfl (lv_at hl 1 rfl) ?_
    refine lv_bipush (v := 16) hx hb d_Mo_head_19 (by decide) ?_
    refine lv_iload_n hx hb d_Mo_head_21 rfl (lv_at hl 0 rfl) ?_
    refine lv_imul hx hb d_Mo_head_22 ?_
    refine lv_iload_n hx hb d_Mo_head_23 rfl (lv_at hl 3 rfl) ?_
    refine lv_iadd hx hb d_Mo_head_24 ?_
    refine ob_cVv (nA := 1) (As := [.int (((16 : Int32) * (v1 - x2)) + v2)]) (rest := []) Cx hl.1 hP hS (fun o ho => c_Mo_write v0 (((16 : Int32) * (v1 - x2)) + v2) ho) (fun o ho => g_Mo_write v0 (((16 : Int32) * (v1 - x2)) + v2) ho) (by decide) (rfl : ob_cl[11]? = _) mv_Mo_write w_m_Mo_144 rfl (by decide +kernel) ⟨rfl, rfl⟩ ⟨by decide, by decide⟩ (Nat.le_of_ble_eq_true rfl) rfl d_Mo_head_25 h (fun t25 H locs h hP hS => ?_)
    refine lv_goto (tgt := 48) hx hb d_Mo_head_28 (by decide) ?_
    exact ob_vret Cx hP hS d_Mo_head_48 h
set_option maxHeartbeats 4000000 in
set_option maxRecDepth 100000 in
theorem tB_Mo_option_41 {p : Program} {l : Launch} {e : Env} {R : Room} {s : State} {m : MethodId} {args : Array Value} {below : List Frame} {meth : Method} {c : Code} {b : Nat} {D : va_G} {cA : Nat → ClassId} {adK adV : Nat → Nat} {out : ob_S} (Cx : ob_C p R s m args meth c cb_Mo_option 3 "ObservedBlocksModel" none b D cA adK adV 2 44) : ∀ (t : ob_S) (H : Heap) (locs : List Loc) (ls : Array Slot) (v0 : Nat) (v2 : Int32), ob_H b D cA t H → va_S (ob_A b) s.heap H locs → lv_has ls 3 [(0, .ref (b + v0)), (2, .int v2)] → B_Mo_option_41 v0 v2 t = some out → W p l e R s m args below meth c H locs 0 0 (MQ below (ob_Qv b D cA out) args s 0 0 (ob_A b)) (F0 m 41 ls []) := by
  have hx := Cx.1.1
  have hb := Cx.1.2.1
  intro t H locs ls v0 v2 hP hS hl h
  unfold B_Mo_option_41 at h
  refine lv_iload_n hx hb d_Mo_option_41 rfl (lv_at hl 1 rfl) ?_
  refine lv_if_le (tgt := 54) hx hb d_Mo_option_42 (by decide) (fun hq => ?_) (fun hq => ?_)
  · rw [if_pos hq] at h
    exact ob_vret Cx hP hS d_Mo_option_54 h
  · rw [if_neg hq] at h
    refine lv_aload_n hx hb d_Mo_option_45 rfl (lv_at hl 0 rfl) ?_
    refine lv_iload_n hx hb d_Mo_option_46 rfl (lv_at hl 1 rfl) ?_
    refine lv_sipush (v := 256) hx hb d_Mo_option_47 (by decide) ?_
    refine lv_irem hx hb d_Mo_option_50 (by decide) ?_
    refine ob_cVv (nA := 1) (As := [.int (v2 - v2 / (256 : Int32) * (256 : Int32))]) (rest := []) Cx hl.1 hP hS (fun o ho => c_Mo_write v0 (v2 - v2 / (256 : Int32) * (256 : Int32)) ho) (fun o ho => g_Mo_write v0 (v2 - v2 / (256 : Int32) * (256 : Int32)) ho) (by decide) (rfl : ob_cl[11]? = _) mv_Mo_write w_m_Mo_144 rfl (by decide +kernel) ⟨rfl, rfl⟩ ⟨by decide, by decide⟩ (Nat.le_of_ble_eq_true rfl) rfl d_Mo_option_51 h (fun t51 H locs h hP hS => ?_)
    exact ob_vret Cx hP hS d_Mo_option_54 h
set_option maxHeartbeats 4000000 in
set_option maxRecDepth 100000 in
theorem tB_Mo_option_22 {p : Program} {l : Launch} {e : Env} {R : Room} {s : State} {m : MethodId} {args : Array Value} {below : List Frame} {meth : Method} {c : Code} {b : Nat} {D : va_G} {cA : Nat → ClassId} {adK adV : Nat → Nat} {out : ob_S} (Cx : ob_C p R s m args meth c cb_Mo_option 3 "ObservedBlocksModel" none b D cA adK adV 2 44) : ∀ (t : ob_S) (H : Heap) (locs : List Loc) (ls : Array Slot) (v0 : Nat) (v2 : Int32) (s0 : Int32) (s1 : Int32) (s2 : Nat), ob_H b D cA t H → va_S (ob_A b) s.heap H locs → lv_has ls 3 [(0, .ref (b + v0)), (2, .int v2)] → B_Mo_option_22 v0 v2 s0 s1 s2 t = some out → W p l e R s m args below meth c H locs 0 0 (MQ below (ob_Qv b D cA out) args s 0 0 (ob_A b)) (F0 m 22 ls [.int s0, .int s1, .ref (b + s2)]) := by
  have hx := Cx.1.1
  have hb := Cx.1.2.1
  intro t H locs ls v0 v2 s0 s1 s2 hP hS hl h
  unfold B_Mo_option_22 at h
  refine ob_cVv (nA := 2) (As := [.int s1, .int s0]) (rest := []) Cx hl.1 hP hS (fun o ho => c_Mo_head s2 s1 s0 ho) (fun o ho => g_Mo_head s2 s1 s0 ho) (by decide) (rfl : ob_cl[11]? = _) mv_Mo_head w_m_Mo_148 rfl (by decide +kernel) ⟨rfl, rfl⟩ ⟨by decide, by decide⟩ (Nat.le_of_ble_eq_true rfl) rfl d_Mo_option_22 h (fun t22 H locs h hP hS => ?_)
  refine lv_iload_n hx hb d_Mo_option_25 rfl (lv_at hl 1 rfl) ?_
  refine lv_sipush (v := 255) hx hb d_Mo_option_26 (by decide) ?_
  refine lv_icmp_le (tgt := 41) hx hb d_Mo_option_29 (by decide) (fun hq => ?_) (fun hq => ?_)
  · rw [if_pos hq] at h
    exact tB_Mo_option_41 Cx t22 H locs ls v0 v2 hP hS (lv_sub hl [0, 1] rfl) h
  · rw [if_neg hq] at h
    refine lv_aload_n hx hb d_Mo_option_32 rfl (lv_at hl 0 rfl) ?_
    refine lv_iload_n hx hb d_Mo_option_33 rfl (lv_at hl 1 rfl) ?_
    refine lv_sipush (v := 256) hx hb d_Mo_option_34 (by decide) ?_
    refine lv_idiv hx hb d_Mo_option_37 (by decide) ?_
    refine ob_cVv (nA := 1) (As := [.int (v2 / (256 : Int32))]) (rest := []) Cx hl.1 hP hS (fun o ho => c_Mo_write v0 (v2 / (256 : Int32)) ho) (fun o ho => g_Mo_write v0 (v2 / (256 : Int32)) ho) (by decide) (rfl : ob_cl[11]? = _) mv_Mo_write w_m_Mo_144 rfl (by decide +kernel) ⟨rfl, rfl⟩ ⟨by decide, by decide⟩ (Nat.le_of_ble_eq_true rfl) rfl d_Mo_option_38 h (fun t38 H locs h hP hS => ?_)
    exact tB_Mo_option_41 Cx t38 H locs ls v0 v2 hP hS (lv_sub hl [0, 1] rfl) h
theorem g_Mo_option (v0 : Nat) (v1 : Int32) (v2 : Int32) {t : ob_S} {out : ob_S} (h : X_Mo_option v0 v1 v2 t = some out) : v0 < ob_n t ∧ ob_k t v0 = 11 := by
  unfold X_Mo_option ob_this at h
  by_cases q : v0 < ob_n t ∧ ob_k t v0 = 11
  · exact q
  · rw [if_neg q] at h
    cases h
set_option maxHeartbeats 4000000 in
set_option maxRecDepth 100000 in
theorem c_Mo_option {l : Launch} {b : Nat} {D : va_G} {cA : Nat → ClassId} {adK adV : Nat → Nat} (v0 : Nat) (v1 : Int32) (v2 : Int32) {t : ob_S} {out : ob_S} (h : X_Mo_option v0 v1 v2 t = some out) : Met l y_Mo_option (Cond.code y_Mo_option cb_Mo_option 3 none :: ob_T) { frames := 2, cells := 0, slots := 0, locals := 44 } (ob_Pre b D cA adK adV [.ref (b + v0), .int v1, .int v2] t) (ob_Qv b D cA out) 0 0 (ob_A b) := by
  refine ob_met (by decide) (Nat.le_of_ble_eq_true rfl) ?_
  intro p e R s m args below meth c ls Cx hP hS hl
  have hl : lv_has ls 3 [(0, .ref (b + v0)), (1, .int v1), (2, .int v2)] := hl
  have hx := Cx.1.1
  have hb := Cx.1.2.1
  have hg := g_Mo_option v0 v1 v2 h
  unfold X_Mo_option ob_this at h
  rw [if_pos hg] at h
  obtain ⟨H, hH⟩ : ∃ H, H = s.heap := ⟨_, rfl⟩
  obtain ⟨locs, hL⟩ : ∃ locs : List Loc, locs = [] := ⟨_, rfl⟩
  rw [← hH] at hP
  have hS : va_S (ob_A b) s.heap H locs := by rw [hH, hL]; exact hS
  suffices hW : W p l e R s m args below meth c H locs 0 0 (MQ below (ob_Qv b D cA out) args s 0 0 (ob_A b)) (F0 m 0 ls []) by rw [hH, hL] at hW; exact hW
  refine lv_aload_n hx hb d_Mo_option_0 rfl (lv_at hl 0 rfl) ?_
  refine lv_iload_n hx hb d_Mo_option_1 rfl (lv_at hl 1 rfl) ?_
  refine lv_iload_n hx hb d_Mo_option_2 rfl (lv_at hl 2 rfl) ?_
  refine lv_if_ne (tgt := 10) hx hb d_Mo_option_3 (by decide) (fun hq => ?_) (fun hq => ?_)
  · rw [if_pos hq] at h
    refine lv_iload_n hx hb d_Mo_option_10 rfl (lv_at hl 2 rfl) ?_
    refine lv_sipush (v := 256) hx hb d_Mo_option_11 (by decide) ?_
    refine lv_icmp_ge (tgt := 21) hx hb d_Mo_option_14 (by decide) (fun hq => ?_) (fun hq => ?_)
    · rw [if_pos hq] at h
      refine lv_iconst (v := 2) hx hb d_Mo_option_21 (by decide) ?_
      exact tB_Mo_option_22 Cx t H locs ls v0 v2 (2 : Int32) v1 v0 hP hS (lv_sub hl [0, 2] rfl) h
    · rw [if_neg hq] at h
      refine lv_iconst (v := 1) hx hb d_Mo_option_17 (by decide) ?_
      refine lv_goto (tgt := 22) hx hb d_Mo_option_18 (by decide) ?_
      exact tB_Mo_option_22 Cx t H locs ls v0 v2 (1 : Int32) v1 v0 hP hS (lv_sub hl [0, 2] rfl) h
  · rw [if_neg (fun z => z hq)] at h
    refine lv_iconst (v := 0) hx hb d_Mo_option_6 (by decide) ?_
    refine lv_goto (tgt := 22) hx hb d_Mo_option_7 (by decide) ?_
    exact tB_Mo_option_22 Cx t H locs ls v0 v2 (0 : Int32) v1 v0 hP hS (lv_sub hl [0, 2] rfl) h
set_option maxHeartbeats 4000000 in
set_option maxRecDepth 100000 in
theorem tB_Mo_path_105 {p : Program} {l : Launch} {e : Env} {R : Room} {s : State} {m : MethodId} {args : Array Value} {below : List Frame} {meth : Method} {c : Code} {b : Nat} {D : va_G} {cA : Nat → ClassId} {adK adV : Nat → Nat} {out : ob_S} (Cx : ob_C p R s m args meth c cb_Mo_path 4 "ObservedBlocksModel" none b D cA adK adV 2 44) : ∀ (t : ob_S) (H : Heap) (locs : List Loc) (ls : Array Slot) (s0 : Int32) (s1 : Nat), ob_H b D cA t H → va_S (ob_A b) s.heap H locs → lv_has ls 4 [] → B_Mo_path_105 s0 s1 t = some out → W p l e R s m args below meth c H locs 0 0 (MQ below (ob_Qv b D cA out) args s 0 0 (ob_A b)) (F0 m 105 ls [.int s0, .ref (b + s1)]) := by
  have hx := Cx.1.1
  have hb := Cx.1.2.1
  intro t H locs ls s0 s1 hP hS hl h
  unfold B_Mo_path_105 at h
  refine ob_cVv (nA := 1) (As := [.int s0]) (rest := []) Cx hl.1 hP hS (fun o ho => c_Mo_write s1 s0 ho) (fun o ho => g_Mo_write s1 s0 ho) (by decide) (rfl : ob_cl[11]? = _) mv_Mo_write w_m_Mo_144 rfl (by decide +kernel) ⟨rfl, rfl⟩ ⟨by decide, by decide⟩ (Nat.le_of_ble_eq_true rfl) rfl d_Mo_path_105 h (fun t105 H locs h hP hS => ?_)
  exact ob_vret Cx hP hS d_Mo_path_108 h
set_option maxHeartbeats 4000000 in
set_option maxRecDepth 100000 in
theorem tB_Mo_path_82 {p : Program} {l : Launch} {e : Env} {R : Room} {s : State} {m : MethodId} {args : Array Value} {below : List Frame} {meth : Method} {c : Code} {b : Nat} {D : va_G} {cA : Nat → ClassId} {adK adV : Nat → Nat} {out : ob_S} (Cx : ob_C p R s m args meth c cb_Mo_path 4 "ObservedBlocksModel" none b D cA adK adV 2 44) : ∀ (t : ob_S) (H : Heap) (locs : List Loc) (ls : Array Slot) (v0 : Nat) (v2 : Int32) (v3 : Int32), ob_H b D cA t H → va_S (ob_A b) s.heap H locs → lv_has ls 4 [(0, .ref (b + v0)), (2, .int v2), (3, .int v3)] → B_Mo_path_82 v0 v2 v3 t = some out → W p l e R s m args below meth c H locs 0 0 (MQ below (ob_Qv b D cA out) args s 0 0 (ob_A b)) (F0 m 82 ls []) := by
  have hx := Cx.1.1
  have hb := Cx.1.2.1
  intro t H locs ls v0 v2 v3 hP hS hl h
  unfold B_Mo_path_82 at h
  refine lv_iload_n hx hb d_Mo_path_82 rfl (lv_at hl 1 rfl) ?_
  refine lv_if_eq (tgt := 108) hx hb d_Mo_path_83 (by decide) (fun hq => ?_) (fun hq => ?_)
  · rw [if_pos hq] at h
    exact ob_vret Cx hP hS d_Mo_path_108 h
  · rw [if_neg hq] at h
    refine lv_aload_n hx hb d_Mo_path_86 rfl (lv_at hl 0 rfl) ?_
    refine lv_bipush (v := 11) hx hb d_Mo_path_87 (by decide) ?_
    refine lv_iconst (v := 1) hx hb d_Mo_path_89 (by decide) ?_
    refine ob_cVv (nA := 2) (As := [.int (11 : Int32), .int (1 : Int32)]) (rest := []) Cx hl.1 hP hS (fun o ho => c_Mo_head v0 (11 : Int32) (1 : Int32) ho) (fun o ho => g_Mo_head v0 (11 : Int32) (1 : Int32) ho) (by decide) (rfl : ob_cl[11]? = _) mv_Mo_head w_m_Mo_148 rfl (by decide +kernel) ⟨rfl, rfl⟩ ⟨by decide, by decide⟩ (Nat.le_of_ble_eq_true rfl) rfl d_Mo_path_90 h (fun t90 H locs h hP hS => ?_)
    refine lv_aload_n hx hb d_Mo_path_93 rfl (lv_at hl 0 rfl) ?_
    refine lv_iload_n hx hb d_Mo_path_94 rfl (lv_at hl 2 rfl) ?_
    refine lv_if_eq (tgt := 103) hx hb d_Mo_path_95 (by decide) (fun hq => ?_) (fun hq => ?_)
    · rw [if_pos hq] at h
      refine lv_bipush (v := 98) hx hb d_Mo_path_103 (by decide) ?_
      exact tB_Mo_path_105 Cx t90 H locs ls (98 : Int32) v0 hP hS (lv_sub hl [] rfl) h
    · rw [if_neg hq] at h
      refine lv_bipush (v := 100) hx hb d_Mo_path_98 (by decide) ?_
      refine lv_goto (tgt := 105) hx hb d_Mo_path_100 (by decide) ?_
      exact tB_Mo_path_105 Cx t90 H locs ls (100 : Int32) v0 hP hS (lv_sub hl [] rfl) h
set_option maxHeartbeats 4000000 in
set_option maxRecDepth 100000 in
theorem tB_Mo_path_69 {p : Program} {l : Launch} {e : Env} {R : Room} {s : State} {m : MethodId} {args : Array Value} {below : List Frame} {meth : Method} {c : Code} {b : Nat} {D : va_G} {cA : Nat → ClassId} {adK adV : Nat → Nat} {out : ob_S} (Cx : ob_C p R s m args meth c cb_Mo_path 4 "ObservedBlocksModel" none b D cA adK adV 2 44) : ∀ (t : ob_S) (H : Heap) (locs : List Loc) (ls : Array Slot) (v0 : Nat) (v2 : Int32) (v3 : Int32) (s0 : Int32) (s1 : Nat), ob_H b D cA t H → va_S (ob_A b) s.heap H locs → lv_has ls 4 [(0, .ref (b + v0)), (2, .int v2), (3, .int v3)] → B_Mo_path_69 v0 v2 v3 s0 s1 t = some out → W p l e R s m args below meth c H locs 0 0 (MQ below (ob_Qv b D cA out) args s 0 0 (ob_A b)) (F0 m 69 ls [.int s0, .ref (b + s1)]) := by
  have hx := Cx.1.1
  have hb := Cx.1.2.1
  intro t H locs ls v0 v2 v3 s0 s1 hP hS hl h
  unfold B_Mo_path_69 at h
  refine ob_cVv (nA := 1) (As := [.int s0]) (rest := []) Cx hl.1 hP hS (fun o ho => c_Mo_write s1 s0 ho) (fun o ho => g_Mo_write s1 s0 ho) (by decide) (rfl : ob_cl[11]? = _) mv_Mo_write w_m_Mo_144 rfl (by decide +kernel) ⟨rfl, rfl⟩ ⟨by decide, by decide⟩ (Nat.le_of_ble_eq_true rfl) rfl d_Mo_path_69 h (fun t69 H locs h hP hS => ?_)
  refine lv_iload_n hx hb d_Mo_path_72 rfl (lv_at hl 2 rfl) ?_
  refine lv_if_eq (tgt := 82) hx hb d_Mo_path_73 (by decide) (fun hq => ?_) (fun hq => ?_)
  · rw [if_pos hq] at h
    exact tB_Mo_path_82 Cx t69 H locs ls v0 v2 v3 hP hS (lv_sub hl [0, 1, 2] rfl) h
  · rw [if_neg hq] at h
    refine lv_aload_n hx hb d_Mo_path_76 rfl (lv_at hl 0 rfl) ?_
    refine lv_bipush (v := 99) hx hb d_Mo_path_77 (by decide) ?_
    refine ob_cVv (nA := 1) (As := [.int (99 : Int32)]) (rest := []) Cx hl.1 hP hS (fun o ho => c_Mo_write v0 (99 : Int32) ho) (fun o ho => g_Mo_write v0 (99 : Int32) ho) (by decide) (rfl : ob_cl[11]? = _) mv_Mo_write w_m_Mo_144 rfl (by decide +kernel) ⟨rfl, rfl⟩ ⟨by decide, by decide⟩ (Nat.le_of_ble_eq_true rfl) rfl d_Mo_path_79 h (fun t79 H locs h hP hS => ?_)
    exact tB_Mo_path_82 Cx t79 H locs ls v0 v2 v3 hP hS (lv_sub hl [0, 1, 2] rfl) h
set_option maxHeartbeats 4000000 in
set_option maxRecDepth 100000 in
theorem tB_Mo_path_44 {p : Program} {l : Launch} {e : Env} {R : Room} {s : State} {m : MethodId} {args : Array Value} {below : List Frame} {meth : Method} {c : Code} {b : Nat} {D : va_G} {cA : Nat → ClassId} {adK adV : Nat → Nat} {out : ob_S} (Cx : ob_C p R s m args meth c cb_Mo_path 4 "ObservedBlocksModel" none b D cA adK adV 2 44) : ∀ (t : ob_S) (H : Heap) (locs : List Loc) (ls : Array Slot) (v0 : Nat) (v1 : Int32) (v2 : Int32) (v3 : Int32) (s0 : Int32) (s1 : Int32) (s2 : Nat), ob_H b D cA t H → va_S (ob_A b) s.heap H locs → lv_has ls 4 [(0, .ref (b + v0)), (1, .int v1), (2, .int v2), (3, .int v3)] → B_Mo_path_44 v0 v1 v2 v3 s0 s1 s2 t = some out → W p l e R s m args below meth c H locs 0 0 (MQ below (ob_Qv b D cA out) args s 0 0 (ob_A b)) (F0 m 44 ls [.int s0, .int s1, .ref (b + s2)]) := by
  have hx := Cx.1.1
  have hb := Cx.1.2.1
  intro t H locs ls v0 v1 v2 v3 s0 s1 s2 hP hS hl h
  unfold B_Mo_path_44 at h
  refine ob_cVv (nA := 2) (As := [.int s1, .int s0]) (rest := []) Cx hl.1 hP hS (fun o ho => c_Mo_head s2 s1 s0 ho) (fun o ho => g_Mo_head s2 s1 s0 ho) (by decide) (rfl : ob_cl[11]? = _) mv_Mo_head w_m_Mo_148 rfl (by decide +kernel) ⟨rfl, rfl⟩ ⟨by decide, by decide⟩ (Nat.le_of_ble_eq_true rfl) rfl d_Mo_path_44 h (fun t44 H locs h hP hS => ?_)
  refine lv_aload_n hx hb d_Mo_path_47 rfl (lv_at hl 0 rfl) ?_
  refine lv_iload_n hx hb d_Mo_path_48 rfl (lv_at hl 3 rfl) ?_
  refine lv_if_eq (tgt := 57) hx hb d_Mo_path_49 (by decide) (fun hq => ?_) (fun hq => ?_)
  · rw [if_pos hq] at h
    refine lv_iload_n hx hb d_Mo_path_57 rfl (lv_at hl 1 rfl) ?_
    refine lv_iconst (v := 4) hx hb d_Mo_path_58 (by decide) ?_
    refine lv_icmp_ne (tgt := 67) hx hb d_Mo_path_59 (by decide) (fun hq => ?_) (fun hq => ?_)
    · rw [if_pos hq] at h
      refine lv_bipush (v := 97) hx hb d_Mo_path_67 (by decide) ?_
      exact tB_Mo_path_69 Cx t44 H locs ls v0 v2 v3 (97 : Int32) v0 hP hS (lv_sub hl [0, 2, 3] rfl) h
    · rw [if_neg (fun z => z hq)] at h
      refine lv_bipush (v := 120) hx hb d_Mo_path_62 (by decide) ?_
      refine lv_goto (tgt := 69) hx hb d_Mo_path_64 (by decide) ?_
      exact tB_Mo_path_69 Cx t44 H locs ls v0 v2 v3 (120 : Int32) v0 hP hS (lv_sub hl [0, 2, 3] rfl) h
  · rw [if_neg hq] at h
    refine lv_bipush (v := 99) hx hb d_Mo_path_52 (by decide) ?_
    refine lv_goto (tgt := 69) hx hb d_Mo_path_54 (by decide) ?_
    exact tB_Mo_path_69 Cx t44 H locs ls v0 v2 v3 (99 : Int32) v0 hP hS (lv_sub hl [0, 2, 3] rfl) h
set_option maxHeartbeats 4000000 in
set_option maxRecDepth 100000 in
theorem tB_Mo_path_31 {p : Program} {l : Launch} {e : Env} {R : Room} {s : State} {m : MethodId} {args : Array Value} {below : List Frame} {meth : Method} {c : Code} {b : Nat} {D : va_G} {cA : Nat → ClassId} {adK adV : Nat → Nat} {out : ob_S} (Cx : ob_C p R s m args meth c cb_Mo_path 4 "ObservedBlocksModel" none b D cA adK adV 2 44) : ∀ (t : ob_S) (H : Heap) (locs : List Loc) (ls : Array Slot) (v0 : Nat) (v1 : Int32) (v2 : Int32) (s0 : Int32), ob_H b D cA t H → va_S (ob_A b) s.heap H locs → lv_has ls 4 [(0, .ref (b + v0)), (1, .int v1), (2, .int v2)] → B_Mo_path_31 v0 v1 v2 s0 t = some out → W p l e R s m args below meth c H locs 0 0 (MQ below (ob_Qv b D cA out) args s 0 0 (ob_A b)) (F0 m 31 ls [.int s0]) := by
  have hx := Cx.1.1
  have hb := Cx.1.2.1
  intro t H locs ls v0 v1 v2 s0 hP hS hl h
  unfold B_Mo_path_31 at h
  refine lv_istore_n (lv' := [(3, .int s0), (0, .ref (b + v0)), (1, .int v1), (2, .int v2)]) hx hb d_Mo_path_31 rfl hl (by decide) rfl (fun ls hl => ?_)
  refine lv_aload_n hx hb d_Mo_path_32 rfl (lv_at hl 1 rfl) ?_
  refine lv_bipush (v := 11) hx hb d_Mo_path_33 (by decide) ?_
  refine lv_iload_n hx hb d_Mo_path_35 rfl (lv_at hl 0 rfl) ?_
  refine lv_if_eq (tgt := 43) hx hb d_Mo_path_36 (by decide) (fun hq => ?_) (fun hq => ?_)
  · rw [if_pos hq] at h
    refine lv_iconst (v := 1) hx hb d_Mo_path_43 (by decide) ?_
    exact tB_Mo_path_44 Cx t H locs ls v0 v1 v2 s0 (1 : Int32) (11 : Int32) v0 hP hS (lv_sub hl [1, 2, 3, 0] rfl) h
  · rw [if_neg hq] at h
    refine lv_iconst (v := 2) hx hb d_Mo_path_39 (by decide) ?_
    refine lv_goto (tgt := 44) hx hb d_Mo_path_40 (by decide) ?_
    exact tB_Mo_path_44 Cx t H locs ls v0 v1 v2 s0 (2 : Int32) (11 : Int32) v0 hP hS (lv_sub hl [1, 2, 3, 0] rfl) h
set_option maxHeartbeats 4000000 in
set_option maxRecDepth 100000 in
theorem tB_Mo_path_26 {p : Program} {l : Launch} {e : Env} {R : Room} {s : State} {m : MethodId} {args : Array Value} {below : List Frame} {meth : Method} {c : Code} {b : Nat} {D : va_G} {cA : Nat → ClassId} {adK adV : Nat → Nat} {out : ob_S} (Cx : ob_C p R s m args meth c cb_Mo_path 4 "ObservedBlocksModel" none b D cA adK adV 2 44) : ∀ (t : ob_S) (H : Heap) (locs : List Loc) (ls : Array Slot) (v0 : Nat) (v1 : Int32) (v2 : Int32), ob_H b D cA t H → va_S (ob_A b) s.heap H locs → lv_has ls 4 [(0, .ref (b + v0)), (1, .int v1), (2, .int v2)] → B_Mo_path_26 v0 v1 v2 t = some out → W p l e R s m args below meth c H locs 0 0 (MQ below (ob_Qv b D cA out) args s 0 0 (ob_A b)) (F0 m 26 ls []) := by
  have hx := Cx.1.1
  have hb := Cx.1.2.1
  intro t H locs ls v0 v1 v2 hP hS hl h
  unfold B_Mo_path_26 at h
  refine lv_iconst (v := 1) hx hb d_Mo_path_26 (by decide) ?_
  refine lv_goto (tgt := 31) hx hb d_Mo_path_27 (by decide) ?_
  exact tB_Mo_path_31 Cx t H locs ls v0 v1 v2 (1 : Int32) hP hS (lv_sub hl [0, 1, 2] rfl) h
set_option maxHeartbeats 4000000 in
set_option maxRecDepth 100000 in
theorem tB_Mo_path_15 {p : Program} {l : Launch} {e : Env} {R : Room} {s : State} {m : MethodId} {args : Array Value} {below : List Frame} {meth : Method} {c : Code} {b : Nat} {D : va_G} {cA : Nat → ClassId} {adK adV : Nat → Nat} {out : ob_S} (Cx : ob_C p R s m args meth c cb_Mo_path 4 "ObservedBlocksModel" none b D cA adK adV 2 44) : ∀ (t : ob_S) (H : Heap) (locs : List Loc) (ls : Array Slot) (v0 : Nat) (v1 : Int32) (s0 : Int32), ob_H b D cA t H → va_S (ob_A b) s.heap H locs → lv_has ls 4 [(0, .ref (b + v0)), (1, .int v1)] → B_Mo_path_15 v0 v1 s0 t = some out → W p l e R s m args below meth c H locs 0 0 (MQ below (ob_Qv b D cA out) args s 0 0 (ob_A b)) (F0 m 15 ls [.int s0]) := by
  have hx := Cx.1.1
  have hb := Cx.1.2.1
  intro t H locs ls v0 v1 s0 hP hS hl h
  unfold B_Mo_path_15 at h
  refine lv_istore_n (lv' := [(2, .int s0), (0, .ref (b + v0)), (1, .int v1)]) hx hb d_Mo_path_15 rfl hl (by decide) rfl (fun ls hl => ?_)
  refine lv_iload_n hx hb d_Mo_path_16 rfl (lv_at hl 2 rfl) ?_
  refine lv_iconst (v := 2) hx hb d_Mo_path_17 (by decide) ?_
  refine lv_icmp_eq (tgt := 26) hx hb d_Mo_path_18 (by decide) (fun hq => ?_) (fun hq => ?_)
  · rw [if_pos hq] at h
    exact tB_Mo_path_26 Cx t H locs ls v0 v1 s0 hP hS (lv_sub hl [1, 2, 0] rfl) h
  · rw [if_neg hq] at h
    refine lv_iload_n hx hb d_Mo_path_21 rfl (lv_at hl 2 rfl) ?_
    refine lv_iconst (v := 3) hx hb d_Mo_path_22 (by decide) ?_
    refine lv_icmp_ne (tgt := 30) hx hb d_Mo_path_23 (by decide) (fun hq => ?_) (fun hq => ?_)
    · rw [if_pos hq] at h
      refine lv_iconst (v := 0) hx hb d_Mo_path_30 (by decide) ?_
      exact tB_Mo_path_31 Cx t H locs ls v0 v1 s0 (0 : Int32) hP hS (lv_sub hl [1, 2, 0] rfl) h
    · rw [if_neg (fun z => z hq)] at h
      exact tB_Mo_path_26 Cx t H locs ls v0 v1 s0 hP hS (lv_sub hl [1, 2, 0] rfl) h
set_option maxHeartbeats 4000000 in
set_option maxRecDepth 100000 in
theorem tB_Mo_path_10 {p : Program} {l : Launch} {e : Env} {R : Room} {s : State} {m : MethodId} {args : Array Value} {below : List Frame} {meth : Method} {c : Code} {b : Nat} {D : va_G} {cA : Nat → ClassId} {adK adV : Nat → Nat} {out : ob_S} (Cx : ob_C p R s m args meth c cb_Mo_path 4 "ObservedBlocksModel" none b D cA adK adV 2 44) : ∀ (t : ob_S) (H : Heap) (locs : List Loc) (ls : Array Slot) (v0 : Nat) (v1 : Int32), ob_H b D cA t H → va_S (ob_A b) s.heap H locs → lv_has ls 4 [(0, .ref (b + v0)), (1, .int v1)] → B_Mo_path_10 v0 v1 t = some out → W p l e R s m args below meth c H locs 0 0 (MQ below (ob_Qv b D cA out) args s 0 0 (ob_A b)) (F0 m 10 ls []) := by
  have hx := Cx.1.1
  have hb := Cx.1.2.1
  intro t H locs ls v0 v1 hP hS hl h
  unfold B_Mo_path_10 at h
  refine lv_iconst (v := 1) hx hb d_Mo_path_10 (by decide) ?_
  refine lv_goto (tgt := 15) hx hb d_Mo_path_11 (by decide) ?_
  exact tB_Mo_path_15 Cx t H locs ls v0 v1 (1 : Int32) hP hS (lv_sub hl [0, 1] rfl) h
theorem g_Mo_path (v0 : Nat) (v1 : Int32) {t : ob_S} {out : ob_S} (h : X_Mo_path v0 v1 t = some out) : v0 < ob_n t ∧ ob_k t v0 = 11 := by
  unfold X_Mo_path ob_this at h
  by_cases q : v0 < ob_n t ∧ ob_k t v0 = 11
  · exact q
  · rw [if_neg q] at h
    cases h
set_option maxHeartbeats 4000000 in
set_option maxRecDepth 100000 in
theorem c_Mo_path {l : Launch} {b : Nat} {D : va_G} {cA : Nat → ClassId} {adK adV : Nat → Nat} (v0 : Nat) (v1 : Int32) {t : ob_S} {out : ob_S} (h : X_Mo_path v0 v1 t = some out) : Met l y_Mo_path (Cond.code y_Mo_path cb_Mo_path 4 none :: ob_T) { frames := 2, cells := 0, slots := 0, locals := 44 } (ob_Pre b D cA adK adV [.ref (b + v0), .int v1] t) (ob_Qv b D cA out) 0 0 (ob_A b) := by
  refine ob_met (by decide) (Nat.le_of_ble_eq_true rfl) ?_
  intro p e R s m args below meth c ls Cx hP hS hl
  have hl : lv_has ls 4 [(0, .ref (b + v0)), (1, .int v1)] := hl
  have hx := Cx.1.1
  have hb := Cx.1.2.1
  have hg := g_Mo_path v0 v1 h
  unfold X_Mo_path ob_this at h
  rw [if_pos hg] at h
  obtain ⟨H, hH⟩ : ∃ H, H = s.heap := ⟨_, rfl⟩
  obtain ⟨locs, hL⟩ : ∃ locs : List Loc, locs = [] := ⟨_, rfl⟩
  rw [← hH] at hP
  have hS : va_S (ob_A b) s.heap H locs := by rw [hH, hL]; exact hS
  suffices hW : W p l e R s m args below meth c H locs 0 0 (MQ below (ob_Qv b D cA out) args s 0 0 (ob_A b)) (F0 m 0 ls []) by rw [hH, hL] at hW; exact hW
  refine lv_iload_n hx hb d_Mo_path_0 rfl (lv_at hl 1 rfl) ?_
  refine lv_iconst (v := 1) hx hb d_Mo_path_1 (by decide) ?_
  refine lv_icmp_eq (tgt := 10) hx hb d_Mo_path_2 (by decide) (fun hq => ?_) (fun hq => ?_)
  · rw [if_pos hq] at h
    exact tB_Mo_path_10 Cx t H locs ls v0 v1 hP hS (lv_sub hl [0, 1] rfl) h
  · rw [if_neg hq] at h
    refine lv_iload_n hx hb d_Mo_path_5 rfl (lv_at hl 1 rfl) ?_
    refine lv_iconst (v := 3) hx hb d_Mo_path_6 (by decide) ?_
    refine lv_icmp_ne (tgt := 14) hx hb d_Mo_path_7 (by decide) (fun hq => ?_) (fun hq => ?_)
    · rw [if_pos hq] at h
      refine lv_iconst (v := 0) hx hb d_Mo_path_14 (by decide) ?_
      exact tB_Mo_path_15 Cx t H locs ls v0 v1 (0 : Int32) hP hS (lv_sub hl [0, 1] rfl) h
    · rw [if_neg (fun z => z hq)] at h
      exact tB_Mo_path_10 Cx t H locs ls v0 v1 hP hS (lv_sub hl [0, 1] rfl) h
set_option maxHeartbeats 4000000 in
set_option maxRecDepth 100000 in
theorem c_Mo_sizeOf {l : Launch} {b : Nat} {D : va_G} {cA : Nat → ClassId} {adK adV : Nat → Nat} (v0 : Int32) {t : ob_S} {out : (Int32 × ob_S)} (h : X_Mo_sizeOf v0 t = some out) : Met l y_Mo_sizeOf (Cond.code y_Mo_sizeOf cb_Mo_sizeOf 1 (some .int) :: ob_T) { frames := 0, cells := 0, slots := 0, locals := 0 } (ob_Pre b D cA adK adV [.int v0] t) (ob_Qi b D cA out) 0 0 (ob_A b) := by
  refine ob_met (by decide) (Nat.le_of_ble_eq_true rfl) ?_
  intro p e R s m args below meth c ls Cx hP hS hl
  have hl : lv_has ls 1 [(0, .int v0)] := hl
  have hx := Cx.1.1
  have hb := Cx.1.2.1
  unfold X_Mo_sizeOf at h
  obtain ⟨H, hH⟩ : ∃ H, H = s.heap := ⟨_, rfl⟩
  obtain ⟨locs, hL⟩ : ∃ locs : List Loc, locs = [] := ⟨_, rfl⟩
  rw [← hH] at hP
  have hS : va_S (ob_A b) s.heap H locs := by rw [hH, hL]; exact hS
  suffices hW : W p l e R s m args below meth c H locs 0 0 (MQ below (ob_Qi b D cA out) args s 0 0 (ob_A b)) (F0 m 0 ls []) by rw [hH, hL] at hW; exact hW
  refine lv_iload_n hx hb d_Mo_sizeOf_0 rfl (lv_at hl 0 rfl) ?_
  refine lv_if_ne (tgt := 9) hx hb d_Mo_sizeOf_1 (by decide) (fun hq => ?_) (fun hq => ?_)
  · rw [if_pos hq] at h
    refine lv_bipush (v := 32) hx hb d_Mo_sizeOf_9 (by decide) ?_
    exact ob_iret Cx hP hS d_Mo_sizeOf_11 h
  · rw [if_neg (fun z => z hq)] at h
    refine lv_bipush (v := 16) hx hb d_Mo_sizeOf_4 (by decide) ?_
    refine lv_goto (tgt := 11) hx hb d_Mo_sizeOf_6 (by decide) ?_
    exact ob_iret Cx hP hS d_Mo_sizeOf_11 h
set_option maxHeartbeats 4000000 in
set_option maxRecDepth 100000 in
theorem c_Mo_within {l : Launch} {b : Nat} {D : va_G} {cA : Nat → ClassId} {adK adV : Nat → Nat} (v0 : Int32) (v1 : Int32) (v2 : Int32) {t : ob_S} {out : (Int32 × ob_S)} (h : X_Mo_within v0 v1 v2 t = some out) : Met l y_Mo_within (Cond.code y_Mo_within cb_Mo_within 4 (some .int) :: ob_T) { frames := 1, cells := 0, slots := 0, locals := 20 } (ob_Pre b D cA adK adV [.int v0, .int v1, .int v2] t) (ob_Qi b D cA out) 0 0 (ob_A b) := by
  refine ob_met (by decide) (Nat.le_of_ble_eq_true rfl) ?_
  intro p e R s m args below meth c ls Cx hP hS hl
  have hl : lv_has ls 4 [(0, .int v0), (1, .int v1), (2, .int v2)] := hl
  have hx := Cx.1.1
  have hb := Cx.1.2.1
  unfold X_Mo_within at h
  obtain ⟨H, hH⟩ : ∃ H, H = s.heap := ⟨_, rfl⟩
  obtain ⟨locs, hL⟩ : ∃ locs : List Loc, locs = [] := ⟨_, rfl⟩
  rw [← hH] at hP
  have hS : va_S (ob_A b) s.heap H locs := by rw [hH, hL]; exact hS
  suffices hW : W p l e R s m args below meth c H locs 0 0 (MQ below (ob_Qi b D cA out) args s 0 0 (ob_A b)) (F0 m 0 ls []) by rw [hH, hL] at hW; exact hW
  refine lv_iload_n hx hb d_Mo_within_0 rfl (lv_at hl 0 rfl) ?_
  refine lv_iload_n hx hb d_Mo_within_1 rfl (lv_at hl 1 rfl) ?_
  refine lv_iload_n hx hb d_Mo_within_2 rfl (lv_at hl 2 rfl) ?_
  refine ob_cSi (nA := 1) (As := [.int v2]) (rest := [.int v1, .int v0]) Cx hl.1 hP hS (fun o ho => c_Mo_sizeOf v2 ho) ms_Mo_sizeOf w_m_Mo_152 rfl (by decide +kernel) ⟨rfl, rfl⟩ ⟨by decide, by decide⟩ (Nat.le_of_ble_eq_true rfl) rfl d_Mo_within_3 h (fun x3 t3 H locs h hP hS => ?_)
  refine lv_imul hx hb d_Mo_within_6 ?_
  refine lv_isub hx hb d_Mo_within_7 ?_
  refine lv_istore_n (lv' := [(3, .int (v0 - (v1 * x3))), (0, .int v0), (1, .int v1), (2, .int v2)]) hx hb d_Mo_within_8 rfl hl (by decide) rfl (fun ls hl => ?_)
  refine lv_iload_n hx hb d_Mo_within_9 rfl (lv_at hl 0 rfl) ?_
  refine lv_if_ge (tgt := 17) hx hb d_Mo_within_10 (by decide) (fun hq => ?_) (fun hq => ?_)
  · rw [if_pos hq] at h
    refine lv_iload_n hx hb d_Mo_within_17 rfl (lv_at hl 0 rfl) ?_
    refine lv_iload_n hx hb d_Mo_within_18 rfl (lv_at hl 3 rfl) ?_
    refine ob_cSi (nA := 1) (As := [.int v2]) (rest := [.int (v0 - (v1 * x3))]) Cx hl.1 hP hS (fun o ho => c_Mo_sizeOf v2 ho) ms_Mo_sizeOf w_m_Mo_152 rfl (by decide +kernel) ⟨rfl, rfl⟩ ⟨by decide, by decide⟩ (Nat.le_of_ble_eq_true rfl) rfl d_Mo_within_19 h (fun x19 t19 H locs h hP hS => ?_)
    refine lv_icmp_le (tgt := 32) hx hb d_Mo_within_22 (by decide) (fun hq => ?_) (fun hq => ?_)
    · rw [if_pos hq] at h
      refine lv_iload_n hx hb d_Mo_within_32 rfl (lv_at hl 0 rfl) ?_
      exact ob_iret Cx hP hS d_Mo_within_33 h
    · rw [if_neg hq] at h
      refine lv_iload_n hx hb d_Mo_within_25 rfl (lv_at hl 3 rfl) ?_
      refine ob_cSi (nA := 1) (As := [.int v2]) (rest := []) Cx hl.1 hP hS (fun o ho => c_Mo_sizeOf v2 ho) ms_Mo_sizeOf w_m_Mo_152 rfl (by decide +kernel) ⟨rfl, rfl⟩ ⟨by decide, by decide⟩ (Nat.le_of_ble_eq_true rfl) rfl d_Mo_within_26 h (fun x26 t26 H locs h hP hS => ?_)
      refine lv_goto (tgt := 33) hx hb d_Mo_within_29 (by decide) ?_
      exact ob_iret Cx hP hS d_Mo_within_33 h
  · rw [if_neg hq] at h
    refine lv_iconst (v := 0) hx hb d_Mo_within_13 (by decide) ?_
    refine lv_goto (tgt := 33) hx hb d_Mo_within_14 (by decide) ?_
    exact ob_iret Cx hP hS d_Mo_within_33 h

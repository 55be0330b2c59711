set_option maxHeartbeats 4000000 in
set_option maxRecDepth 100000 in
theorem c_By_init {l : Launch} {b : Nat} {D : va_G} {cA : Nat → ClassId} {adK adV : Nat → Nat} (v0 : Nat) (v1 : Int32) {t : ob_S} {out : ob_S} (h : X_By_init v0 v1 t = some out) : Met l y_By_init (Cond.code y_By_init cb_By_init 2 none :: ob_T) { frames := 1, cells := 1, slots := 80, locals := 20 } (ob_PreC b D cA adK adV [.ref (b + v0), .int v1] t) (ob_QC b D cA (ob_n t + 1) out) 1 80 (ob_A b) := by
  refine ob_metC (by decide) rfl (Nat.le_of_ble_eq_true rfl) ?_
  intro p e R s m args below meth c ls Cx hin hR hz hP hS hl
  have hl : lv_has ls 2 [(0, .ref (b + v0)), (1, .int v1)] := hl
  have hx := Cx.1.1
  have hb := Cx.1.2.1
  have hz0 : s.heap.size = b + ob_n t := hz
  obtain ⟨hRc, hRs⟩ := hR
  unfold X_By_init at h
  obtain ⟨H, hH⟩ : ∃ H, H = s.heap := ⟨_, rfl⟩
  obtain ⟨locs, hL⟩ : ∃ locs : List Loc, locs = [] := ⟨_, rfl⟩
  rw [← hH] at hP
  have hS : va_S (ob_A b) s.heap H locs := by rw [hH, hL]; exact hS
  suffices hW : W p l e R s m args below meth c H locs 0 0 (MQ below (ob_QC b D cA (ob_n t + 1) out) args s 1 80 (ob_A b)) (F0 m 0 ls []) by rw [hH, hL] at hW; exact hW
  refine lv_aload_n hx hb d_By_init_0 rfl (lv_at hl 0 rfl) ?_
  refine ob_oinit Cx hl.1 (by decide) (Nat.le_of_ble_eq_true rfl) w_m_By_3 d_By_init_1 ?_
  refine lv_aload_n hx hb d_By_init_4 rfl (lv_at hl 0 rfl) ?_
  refine lv_iload_n hx hb d_By_init_5 rfl (lv_at hl 1 rfl) ?_
  refine ob_newI (mx := 80) Cx hP hS hz (by decide) (by omega) (by omega) d_By_init_6 h (fun t6 H h _ hP hS hz => ?_)
  refine ob_putFR (k := 0) hz hin rfl Cx hP hS ck_0 rfl rfl rfl rfl w_f_By_9 d_By_init_8 h (fun t8 H locs h hP hS hz => ?_)
  refine lv_aload_n hx hb d_By_init_11 rfl (lv_at hl 0 rfl) ?_
  refine lv_iconst (v := 0) hx hb d_By_init_12 (by decide) ?_
  refine ob_putIz (k := 1) hz Cx hP hS ck_0 rfl rfl rfl w_f_By_15 d_By_init_13 h (fun t13 H locs h hP hS hz => ?_)
  exact ob_vretC hz hz0 (by omega) (by omega) Cx hP hS d_By_init_16 h
set_option maxHeartbeats 4000000 in
set_option maxRecDepth 100000 in
theorem c_Li_init {l : Launch} {b : Nat} {D : va_G} {cA : Nat → ClassId} {adK adV : Nat → Nat} (v0 : Nat) {t : ob_S} {out : ob_S} (h : X_Li_init v0 t = some out) : Met l y_Li_init (Cond.code y_Li_init cb_Li_init 2 none :: ob_T) { frames := 2, cells := 34, slots := 1344, locals := 41 } (ob_PreC b D cA adK adV [.ref (b + v0)] t) (ob_QC b D cA (ob_n t + 34) out) 34 1344 (ob_A b) := by
  refine ob_metC (by decide) rfl (Nat.le_of_ble_eq_true rfl) ?_
  intro p e R s m args below meth c ls Cx hin hR hz hP hS hl
  have hl : lv_has ls 2 [(0, .ref (b + v0))] := hl
  have hx := Cx.1.1
  have hb := Cx.1.2.1
  have hz0 : s.heap.size = b + ob_n t := hz
  obtain ⟨hRc, hRs⟩ := hR
  unfold X_Li_init at h
  obtain ⟨H, hH⟩ : ∃ H, H = s.heap := ⟨_, rfl⟩
  obtain ⟨locs, hL⟩ : ∃ locs : List Loc, locs = [] := ⟨_, rfl⟩
  rw [← hH] at hP
  have hS : va_S (ob_A b) s.heap H locs := by rw [hH, hL]; exact hS
  suffices hW : W p l e R s m args below meth c H locs 0 0 (MQ below (ob_QC b D cA (ob_n t + 34) out) args s 34 1344 (ob_A b)) (F0 m 0 ls []) by rw [hH, hL] at hW; exact hW
  refine lv_aload_n hx hb d_Li_init_0 rfl (lv_at hl 0 rfl) ?_
  refine ob_oinit Cx hl.1 (by decide) (Nat.le_of_ble_eq_true rfl) w_m_Li_3 d_Li_init_1 ?_
  refine lv_aload_n hx hb d_Li_init_4 rfl (lv_at hl 0 rfl) ?_
  refine lv_bipush (v := 16) hx hb d_Li_init_5 (by decide) ?_
  refine ob_newR (kd := 14) (mx := 16) Cx hP hS hz (by decide) (by decide) rfl w_k_Li_9 Cx.2.1.2.2.2.2.2.1 (by omega) (by omega) d_Li_init_7 h (fun t7 H h _ hP hS hz => ?_)
  refine ob_putFR (k := 0) hz hin rfl Cx hP hS ck_1 rfl rfl rfl rfl w_f_Li_11 d_Li_init_10 h (fun t10 H locs h hP hS hz => ?_)
  refine lv_aload_n hx hb d_Li_init_13 rfl (lv_at hl 0 rfl) ?_
  refine lv_bipush (v := 16) hx hb d_Li_init_14 (by decide) ?_
  refine ob_newI (mx := 16) Cx hP hS hz (by decide) (by omega) (by omega) d_Li_init_16 h (fun t16 H h _ hP hS hz => ?_)
  refine ob_putFR (k := 1) hz hin rfl Cx hP hS ck_1 rfl rfl rfl rfl w_f_Li_17 d_Li_init_18 h (fun t18 H locs h hP hS hz => ?_)
  refine lv_iconst (v := 0) hx hb d_Li_init_21 (by decide) ?_
  refine lv_istore_n (lv' := [(1, .int (0 : Int32)), (0, .ref (b + v0))]) hx hb d_Li_init_22 rfl hl (by decide) rfl (fun ls hl => ?_)
  refine lv_iload_n hx hb d_Li_init_23 rfl (lv_at hl 0 rfl) ?_
  refine lv_bipush (v := 16) hx hb d_Li_init_24 (by decide) ?_
  refine lv_icmp_ge (tgt := 50) hx hb d_Li_init_26 (by decide) (fun hq => absurd hq (by decide)) (fun hq => ?_)
  refine lv_aload_n hx hb d_Li_init_29 rfl (lv_at hl 1 rfl) ?_
  refine ob_getR (k := 0) Cx hP ck_1 rfl w_f_Li_11 d_Li_init_30 h (fun n30 h => ?_)
  refine lv_iload_n hx hb d_Li_init_33 rfl (lv_at hl 0 rfl) ?_
  refine ob_newO Cx hP hS ck_0 hz w_k_Li_9 w_q_0 w_i_By nf_0 (by omega) (by omega) d_Li_init_34 (fun H hP hS hz => ?_)
  obtain ⟨t34, et34, h⟩ := ob_b_some h
  rw [Option.some.inj et34] at hP hz
  refine lv_dup hx hb d_Li_init_37 rfl ?_
  refine lv_bipush (v := 48) hx hb d_Li_init_38 (by decide) ?_
  refine ob_cI (nA := 1) (As := [.int (48 : Int32)]) (rest := [.ref (b + (ob_n t18)), .int (0 : Int32), .ref (b + n30)]) hz Cx hl.1 hP hS (fun o ho => c_By_init (ob_n t18) (48 : Int32) ho) mi_By_init w_m_Li_21 rfl (by decide +kernel) ⟨rfl, rfl⟩ ⟨by decide, by decide⟩ ⟨by omega, by omega⟩ (Nat.le_of_ble_eq_true rfl) rfl d_Li_init_40 h (fun t40 H locs h hP hS hz => ?_)
  refine ob_astRz (kd := 14) hz Cx hP hS (by decide) (by decide) (rfl : ob_cl[0]? = _) rfl d_Li_init_43 h (fun t43 H locs h hP hS hz => ?_)
  refine lv_iinc (v := (1 : Int32)) (lv' := [(1, .int (1 : Int32)), (0, .ref (b + v0))]) hx hb d_Li_init_44 hl (k := 0) rfl (by decide) (by decide) rfl (fun ls hl => ?_)
  refine lv_goto (tgt := 23) hx hb d_Li_init_47 (by decide) ?_
  refine lv_iload_n hx hb d_Li_init_23 rfl (lv_at hl 0 rfl) ?_
  refine lv_bipush (v := 16) hx hb d_Li_init_24 (by decide) ?_
  refine lv_icmp_ge (tgt := 50) hx hb d_Li_init_26 (by decide) (fun hq => absurd hq (by decide)) (fun hq => ?_)
  refine lv_aload_n hx hb d_Li_init_29 rfl (lv_at hl 1 rfl) ?_
  refine ob_getR (k := 0) Cx hP ck_1 rfl w_f_Li_11 d_Li_init_30 h (fun n30_1 h => ?_)
  refine lv_iload_n hx hb d_Li_init_33 rfl (lv_at hl 0 rfl) ?_
  refine ob_newO Cx hP hS ck_0 hz w_k_Li_9 w_q_0 w_i_By nf_0 (by omega) (by omega) d_Li_init_34 (fun H hP hS hz => ?_)
  obtain ⟨t34_2, et34_2, h⟩ := ob_b_some h
  rw [Option.some.inj et34_2] at hP hz
  refine lv_dup hx hb d_Li_init_37 rfl ?_
  refine lv_bipush (v := 48) hx hb d_Li_init_38 (by decide) ?_
  refine ob_cI (nA := 1) (As := [.int (48 : Int32)]) (rest := [.ref (b + (ob_n t43)), .int (1 : Int32), .ref (b + n30_1)]) hz Cx hl.1 hP hS (fun o ho => c_By_init (ob_n t43) (48 : Int32) ho) mi_By_init w_m_Li_21 rfl (by decide +kernel) ⟨rfl, rfl⟩ ⟨by decide, by decide⟩ ⟨by omega, by omega⟩ (Nat.le_of_ble_eq_true rfl) rfl d_Li_init_40 h (fun t40_3 H locs h hP hS hz => ?_)
  refine ob_astRz (kd := 14) hz Cx hP hS (by decide) (by decide) (rfl : ob_cl[0]? = _) rfl d_Li_init_43 h (fun t43_4 H locs h hP hS hz => ?_)
  refine lv_iinc (v := (2 : Int32)) (lv' := [(1, .int (2 : Int32)), (0, .ref (b + v0))]) hx hb d_Li_init_44 hl (k := 0) rfl (by decide) (by decide) rfl (fun ls hl => ?_)
  refine lv_goto (tgt := 23) hx hb d_Li_init_47 (by decide) ?_
  refine lv_iload_n hx hb d_Li_init_23 rfl (lv_at hl 0 rfl) ?_
  refine lv_bipush (v := 16) hx hb d_Li_init_24 (by decide) ?_
  refine lv_icmp_ge (tgt := 50) hx hb d_Li_init_26 (by decide) (fun hq => absurd hq (by decide)) (fun hq => ?_)
  refine lv_aload_n hx hb d_Li_init_29 rfl (lv_at hl 1 rfl) ?_
  refine ob_getR (k := 0) Cx hP ck_1 rfl w_f_Li_11 d_Li_init_30 h (fun n30_5 h => ?_)
  refine lv_iload_n hx hb d_Li_init_33 rfl (lv_at hl 0 rfl) ?_
  refine ob_newO Cx hP hS ck_0 hz w_k_Li_9 w_q_0 w_i_By nf_0 (by omega) (by omega) d_Li_init_34 (fun H hP hS hz => ?_)
  obtain ⟨t34_6, et34_6, h⟩ := ob_b_some h
  rw [Option.some.inj et34_6] at hP hz
  refine lv_dup hx hb d_Li_init_37 rfl ?_
  refine lv_bipush (v := 48) hx hb d_Li_init_38 (by decide) ?_
  refine ob_cI (nA := 1) (As := [.int (48 : Int32)]) (rest := [.ref (b + (ob_n t43_4)), .int (2 : Int32), .ref (b + n30_5)]) hz Cx hl.1 hP hS (fun o ho => c_By_init (ob_n t43_4) (48 : Int32) ho) mi_By_init w_m_Li_21 rfl (by decide +kernel) ⟨rfl, rfl⟩ ⟨by decide, by decide⟩ ⟨by omega, by omega⟩ (Nat.le_of_ble_eq_true rfl) rfl d_Li_init_40 h (fun t40_7 H locs h hP hS hz => ?_)
  refine ob_astRz (kd := 14) hz Cx hP hS (by decide) (by decide) (rfl : ob_cl[0]? = _) rfl d_Li_init_43 h (fun t43_8 H locs h hP hS hz => ?_)
  refine lv_iinc (v := (3 : Int32)) (lv' := [(1, .int (3 : Int32)), (0, .ref (b + v0))]) hx hb d_Li_init_44 hl (k := 0) rfl (by decide) (by decide) rfl (fun ls hl => ?_)
  refine lv_goto (tgt := 23) hx hb d_Li_init_47 (by decide) ?_
  refine lv_iload_n hx hb d_Li_init_23 rfl (lv_at hl 0 rfl) ?_
  refine lv_bipush (v := 16) hx hb d_Li_init_24 (by decide) ?_
  refine lv_icmp_ge (tgt := 50) hx hb d_Li_init_26 (by decide) (fun hq => absurd hq (by decide)) (fun hq => ?_)
  refine lv_aload_n hx hb d_Li_init_29 rfl (lv_at hl 1 rfl) ?_
  refine ob_getR (k := 0) Cx hP ck_1 rfl w_f_Li_11 d_Li_init_30 h (fun n30_9 h => ?_)
  refine lv_iload_n hx hb d_Li_init_33 rfl (lv_at hl 0 rfl) ?_
  refine ob_newO Cx hP hS ck_0 hz w_k_Li_9 w_q_0 w_i_By nf_0 (by omega) (by omega) d_Li_init_34 (fun H hP hS hz => ?_)
  obtain ⟨t34_10, et34_10, h⟩ := ob_b_some h
  rw [Option.some.inj et34_10] at hP hz
  refine lv_dup hx hb d_Li_init_37 rfl ?_
  refine lv_bipush (v := 48) hx hb d_Li_init_38 (by decide) ?_
  refine ob_cI (nA := 1) (As := [.int (48 : Int32)]) (rest := [.ref (b + (ob_n t43_8)), .int (3 : Int32), .ref (b + n30_9)]) hz Cx hl.1 hP hS (fun o ho => c_By_init (ob_n t43_8) (48 : Int32) ho) mi_By_init w_m_Li_21 rfl (by decide +kernel) ⟨rfl, rfl⟩ ⟨by decide, by decide⟩ ⟨by omega, by omega⟩ (Nat.le_of_ble_eq_true rfl) rfl d_Li_init_40 h (fun t40_11 H locs h hP hS hz => ?_)
  refine ob_astRz (kd := 14) hz Cx hP hS (by decide) (by decide) (rfl : ob_cl[0]? = _) rfl d_Li_init_43 h (fun t43_12 H locs h hP hS hz => ?_)
  refine lv_iinc (v := (4 : Int32)) (lv' := [(1, .int (4 : Int32)), (0, .ref (b + v0))]) hx hb d_Li_init_44 hl (k := 0) rfl (by decide) (by decide) rfl (fun ls hl => ?_)
  refine lv_goto (tgt := 23) hx hb d_Li_init_47 (by decide) ?_
  refine lv_iload_n hx hb d_Li_init_23 rfl (lv_at hl 0 rfl) ?_
  refine lv_bipush (v := 16) hx hb d_Li_init_24 (by decide) ?_
  refine lv_icmp_ge (tgt := 50) hx hb d_Li_init_26 (by decide) (fun hq => absurd hq (by decide)) (fun hq => ?_)
  refine lv_aload_n hx hb d_Li_init_29 rfl (lv_at hl 1 rfl) ?_
  refine ob_getR (k := 0) Cx hP ck_1 rfl w_f_Li_11 d_Li_init_30 h (fun n30_13 h => ?_)
  refine lv_iload_n hx hb d_Li_init_33 rfl (lv_at hl 0 rfl) ?_
  refine ob_newO Cx hP hS ck_0 hz w_k_Li_9 w_q_0 w_i_By nf_0 (by omega) (by omega) d_Li_init_34 (fun H hP hS hz => ?_)
  obtain ⟨t34_14, et34_14, h⟩ := ob_b_some h
  rw [Option.some.inj et34_14] at hP hz
  refine lv_dup hx hb d_Li_init_37 rfl ?_
  refine lv_bipush (v := 48) hx hb d_Li_init_38 (by decide) ?_
  refine ob_cI (nA := 1) (As := [.int (48 : Int32)]) (rest := [.ref (b + (ob_n t43_12)), .int (4 : Int32), .ref (b + n30_13)]) hz Cx hl.1 hP hS (fun o ho => c_By_init (ob_n t43_12) (48 : Int32) ho) mi_By_init w_m_Li_21 rfl (by decide +kernel) ⟨rfl, rfl⟩ ⟨by decide, by decide⟩ ⟨by omega, by omega⟩ (Nat.le_of_ble_eq_true rfl) rfl d_Li_init_40 h (fun t40_15 H locs h hP hS hz => ?_)
  refine ob_astRz (kd := 14) hz Cx hP hS (by decide) (by decide) (rfl : ob_cl[0]? = _) rfl d_Li_init_43 h (fun t43_16 H locs h hP hS hz => ?_)
  refine lv_iinc (v := (5 : Int32)) (lv' := [(1, .int (5 : Int32)), (0, .ref (b + v0))]) hx hb d_Li_init_44 hl (k := 0) rfl (by decide) (by decide) rfl (fun ls hl => ?_)
  refine lv_goto (tgt := 23) hx hb d_Li_init_47 (by decide) ?_
  refine lv_iload_n hx hb d_Li_init_23 rfl (lv_at hl 0 rfl) ?_
  refine lv_bipush (v := 16) hx hb d_Li_init_24 (by decide) ?_
  refine lv_icmp_ge (tgt := 50) hx hb d_Li_init_26 (by decide) (fun hq => absurd hq (by decide)) (fun hq => ?_)
  refine lv_aload_n hx hb d_Li_init_29 rfl (lv_at hl 1 rfl) ?_
  refine ob_getR (k := 0) Cx hP ck_1 rfl w_f_Li_11 d_Li_init_30 h (fun n30_17 h => ?_)
  refine lv_iload_n hx hb d_Li_init_33 rfl (lv_at hl 0 rfl) ?_
  refine ob_newO Cx hP hS ck_0 hz w_k_Li_9 w_q_0 w_i_By nf_0 (by omega) (by omega) d_Li_init_34 (fun H hP hS hz => ?_)
  obtain ⟨t34_18, et34_18, h⟩ := ob_b_some h
  rw [Option.some.inj et34_18] at hP hz
  refine lv_dup hx hb d_Li_init_37 rfl ?_
  refine lv_bipush (v := 48) hx hb d_Li_init_38 (by decide) ?_
  refine ob_cI (nA := 1) (As := [.int (48 : Int32)]) (rest := [.ref (b + (ob_n t43_16)), .int (5 : Int32), .ref (b + n30_17)]) hz Cx hl.1 hP hS (fun o ho => c_By_init (ob_n t43_16) (48 : Int32) ho) mi_By_init w_m_Li_21 rfl (by decide +kernel) ⟨rfl, rfl⟩ ⟨by decide, by decide⟩ ⟨by omega, by omega⟩ (Nat.le_of_ble_eq_true rfl) rfl d_Li_init_40 h (fun t40_19 H locs h hP hS hz => ?_)
  refine ob_astRz (kd := 14) hz Cx hP hS (by decide) (by decide) (rfl : ob_cl[0]? = _) rfl d_Li_init_43 h (fun t43_20 H locs h hP hS hz => ?_)
  refine lv_iinc (v := (6 : Int32)) (lv' := [(1, .int (6 : Int32)), (0, .ref (b + v0))]) hx hb d_Li_init_44 hl (k := 0) rfl (by decide) (by decide) rfl (fun ls hl => ?_)
  refine lv_goto (tgt := 23) hx hb d_Li_init_47 (by decide) ?_
  refine lv_iload_n hx hb d_Li_init_23 rfl (lv_at hl 0 rfl) ?_
  refine lv_bipush (v := 16) hx hb d_Li_init_24 (by decide) ?_
  refine lv_icmp_ge (tgt := 50) hx hb d_Li_init_26 (by decide) (fun hq => absurd hq (by decide)) (fun hq => ?_)
  refine lv_aload_n hx hb d_Li_init_29 rfl (lv_at hl 1 rfl) ?_
  refine ob_getR (k := 0) Cx hP ck_1 rfl w_f_Li_11 d_Li_init_30 h (fun n30_21 h => ?_)
  refine lv_iload_n hx hb d_Li_init_33 rfl (lv_at hl 0 rfl) ?_
  refine ob_newO Cx hP hS ck_0 hz w_k_Li_9 w_q_0 w_i_By nf_0 (by omega) (by omega) d_Li_init_34 (fun H hP hS hz => ?_)
  obtain ⟨t34_22, et34_22, h⟩ := ob_b_some h
  rw [Option.some.inj et34_22] at hP hz
  refine lv_dup hx hb d_Li_init_37 rfl ?_
  refine lv_bipush (v := 48) hx hb d_Li_init_38 (by decide) ?_
  refine ob_cI (nA := 1) (As := [.int (48 : Int32)]) (rest := [.ref (b + (ob_n t43_20)), .int (6 : Int32), .ref (b + n30_21)]) hz Cx hl.1 hP hS (fun o ho => c_By_init (ob_n t43_20) (48 : Int32) ho) mi_By_init w_m_Li_21 rfl (by decide +kernel) ⟨rfl, rfl⟩ ⟨by decide, by decide⟩ ⟨by omega, by omega⟩ (Nat.le_of_ble_eq_true rfl) rfl d_Li_init_40 h (fun t40_23 H locs h hP hS hz => ?_)
  refine ob_astRz (kd := 14) hz Cx hP hS (by decide) (by decide) (rfl : ob_cl[0]? = _) rfl d_Li_init_43 h (fun t43_24 H locs h hP hS hz => ?_)
  refine lv_iinc (v := (7 : Int32)) (lv' := [(1, .int (7 : Int32)), (0, .ref (b + v0))]) hx hb d_Li_init_44 hl (k := 0) rfl (by decide) (by decide) rfl (fun ls hl => ?_)
  refine lv_goto (tgt := 23) hx hb d_Li_init_47 (by decide) ?_
  refine lv_iload_n hx hb d_Li_init_23 rfl (lv_at hl 0 rfl) ?_
  refine lv_bipush (v := 16) hx hb d_Li_init_24 (by decide) ?_
  refine lv_icmp_ge (tgt := 50) hx hb d_Li_init_26 (by decide) (fun hq => absurd hq (by decide)) (fun hq => ?_)
  refine lv_aload_n hx hb d_Li_init_29 rfl (lv_at hl 1 rfl) ?_
  refine ob_getR (k := 0) Cx hP ck_1 rfl w_f_Li_11 d_Li_init_30 h (fun n30_25 h => ?_)
  refine lv_iload_n hx hb d_Li_init_33 rfl (lv_at hl 0 rfl) ?_
  refine ob_newO Cx hP hS ck_0 hz w_k_Li_9 w_q_0 w_i_By nf_0 (by omega) (by omega) d_Li_init_34 (fun H hP hS hz => ?_)
  obtain ⟨t34_26, et34_26, h⟩ := ob_b_some h
  rw [Option.some.inj et34_26] at hP hz
  refine lv_dup hx hb d_Li_init_37 rfl ?_
  refine lv_bipush (v := 48) hx hb d_Li_init_38 (by decide) ?_
  refine ob_cI (nA := 1) (As := [.int (48 : Int32)]) (rest := [.ref (b + (ob_n t43_24)), .int (7 : Int32), .ref (b + n30_25)]) hz Cx hl.1 hP hS (fun o ho => c_By_init (ob_n t43_24) (48 : Int32) ho) mi_By_init w_m_Li_21 rfl (by decide +kernel) ⟨rfl, rfl⟩ ⟨by decide, by decide⟩ ⟨by omega, by omega⟩ (Nat.le_of_ble_eq_true rfl) rfl d_Li_init_40 h (fun t40_27 H locs h hP hS hz => ?_)
  refine ob_astRz (kd := 14) hz Cx hP hS (by decide) (by decide) (rfl : ob_cl[0]? = _) rfl d_Li_init_43 h (fun t43_28 H locs h hP hS hz => ?_)
  refine lv_iinc (v := (8 : Int32)) (lv' := [(1, .int (8 : Int32)), (0, .ref (b + v0))]) hx hb d_Li_init_44 hl (k := 0) rfl (by decide) (by decide) rfl (fun ls hl => ?_)
  refine lv_goto (tgt := 23) hx hb d_Li_init_47 (by decide) ?_
  refine lv_iload_n hx hb d_Li_init_23 rfl (lv_at hl 0 rfl) ?_
  refine lv_bipush (v := 16) hx hb d_Li_init_24 (by decide) ?_
  refine lv_icmp_ge (tgt := 50) hx hb d_Li_init_26 (by decide) (fun hq => absurd hq (by decide)) (fun hq => ?_)
  refine lv_aload_n hx hb d_Li_init_29 rfl (lv_at hl 1 rfl) ?_
  refine ob_getR (k := 0) Cx hP ck_1 rfl w_f_Li_11 d_Li_init_30 h (fun n30_29 h => ?_)
  refine lv_iload_n hx hb d_Li_init_33 rfl (lv_at hl 0 rfl) ?_
  refine ob_newO Cx hP hS ck_0 hz w_k_Li_9 w_q_0 w_i_By nf_0 (by omega) (by omega) d_Li_init_34 (fun H hP hS hz => ?_)
  obtain ⟨t34_30, et34_30, h⟩ := ob_b_some h
  rw [Option.some.inj et34_30] at hP hz
  refine lv_dup hx hb d_Li_init_37 rfl ?_
  refine lv_bipush (v := 48) hx hb d_Li_init_38 (by decide) ?_
  refine ob_cI (nA := 1) (As := [.int (48 : Int32)]) (rest := [.ref (b + (ob_n t43_28)), .int (8 : Int32), .ref (b + n30_29)]) hz Cx hl.1 hP hS (fun o ho => c_By_init (ob_n t43_28) (48 : Int32) ho) mi_By_init w_m_Li_21 rfl (by decide +kernel) ⟨rfl, rfl⟩ ⟨by decide, by decide⟩ ⟨by omega, by omega⟩ (Nat.le_of_ble_eq_true rfl) rfl d_Li_init_40 h (fun t40_31 H locs h hP hS hz => ?_)
  refine ob_astRz (kd := 14) hz Cx hP hS (by decide) (by decide) (rfl : ob_cl[0]? = _) rfl d_Li_init_43 h (fun t43_32 H locs h hP hS hz => ?_)
  refine lv_iinc (v := (9 : Int32)) (lv' := [(1, .int (9 : Int32)), (0, .ref (b + v0))]) hx hb d_Li_init_44 hl (k := 0) rfl (by decide) (by decide) rfl (fun ls hl => ?_)
  refine lv_goto (tgt := 23) hx hb d_Li_init_47 (by decide) ?_
  refine lv_iload_n hx hb d_Li_init_23 rfl (lv_at hl 0 rfl) ?_
  refine lv_bipush (v := 16) hx hb d_Li_init_24 (by decide) ?_
  refine lv_icmp_ge (tgt := 50) hx hb d_Li_init_26 (by decide) (fun hq => absurd hq (by decide)) (fun hq => ?_)
  refine lv_aload_n hx hb d_Li_init_29 rfl (lv_at hl 1 rfl) ?_
  refine ob_getR (k := 0) Cx hP ck_1 rfl w_f_Li_11 d_Li_init_30 h (fun n30_33 h => ?_)
  refine lv_iload_n hx hb d_Li_init_33 rfl (lv_at hl 0 rfl) ?_
  refine ob_newO Cx hP hS ck_0 hz w_k_Li_9 w_q_0 w_i_By nf_0 (by omega) (by omega) d_Li_init_34 (fun H hP hS hz => ?_)
  obtain ⟨t34_34, et34_34, h⟩ := ob_b_some h
  rw [Option.some.inj et34_34] at hP hz
  refine lv_dup hx hb d_Li_init_37 rfl ?_
  refine lv_bipush (v := 48) hx hb d_Li_init_38 (by decide) ?_
  refine ob_cI (nA := 1) (As := [.int (48 : Int32)]) (rest := [.ref (b + (ob_n t43_32)), .int (9 : Int32), .ref (b + n30_33)]) hz Cx hl.1 hP hS (fun o ho => c_By_init (ob_n t43_32) (48 : Int32) ho) mi_By_init w_m_Li_21 rfl (by decide +kernel) ⟨rfl, rfl⟩ ⟨by decide, by decide⟩ ⟨by omega, by omega⟩ (Nat.le_of_ble_eq_true rfl) rfl d_Li_init_40 h (fun t40_35 H locs h hP hS hz => ?_)
  refine ob_astRz (kd := 14) hz Cx hP hS (by decide) (by decide) (rfl : ob_cl[0]? = _) rfl d_Li_init_43 h (fun t43_36 H locs h hP hS hz => ?_)
  refine lv_iinc (v := (10 : Int32)) (lv' := [(1, .int (10 : Int32)), (0, .ref (b + v0))]) hx hb d_Li_init_44 hl (k := 0) rfl (by decide) (by decide) rfl (fun ls hl => ?_)
  refine lv_goto (tgt := 23) hx hb d_Li_init_47 (by decide) ?_
  refine lv_iload_n hx hb d_Li_init_23 rfl (lv_at hl 0 rfl) ?_
  refine lv_bipush (v := 16) hx hb d_Li_init_24 (by decide) ?_
  refine lv_icmp_ge (tgt := 50) hx hb d_Li_init_26 (by decide) (fun hq => absurd hq (by decide)) (fun hq => ?_)
  refine lv_aload_n hx hb d_Li_init_29 rfl (lv_at hl 1 rfl) ?_
  refine ob_getR (k := 0) Cx hP ck_1 rfl w_f_Li_11 d_Li_init_30 h (fun n30_37 h => ?_)
  refine lv_iload_n hx hb d_Li_init_33 rfl (lv_at hl 0 rfl) ?_
  refine ob_newO Cx hP hS ck_0 hz w_k_Li_9 w_q_0 w_i_By nf_0 (by omega) (by omega) d_Li_init_34 (fun H hP hS hz => ?_)
  obtain ⟨t34_38, et34_38, h⟩ := ob_b_some h
  rw [Option.some.inj et34_38] at hP hz
  refine lv_dup hx hb d_Li_init_37 rfl ?_
  refine lv_bipush (v := 48) hx hb d_Li_init_38 (by decide) ?_
  refine ob_cI (nA := 1) (As := [.int (48 : Int32)]) (rest := [.ref (b + (ob_n t43_36)), .int (10 : Int32), .ref (b + n30_37)]) hz Cx hl.1 hP hS (fun o ho => c_By_init (ob_n t43_36) (48 : Int32) ho) mi_By_init w_m_Li_21 rfl (by decide +kernel) ⟨rfl, rfl⟩ ⟨by decide, by decide⟩ ⟨by omega, by omega⟩ (Nat.le_of_ble_eq_true rfl) rfl d_Li_init_40 h (fun t40_39 H locs h hP hS hz => ?_)
  refine ob_astRz (kd := 14) hz Cx hP hS (by decide) (by decide) (rfl : ob_cl[0]? = _) rfl d_Li_init_43 h (fun t43_40 H locs h hP hS hz => ?_)
  refine lv_iinc (v := (11 : Int32)) (lv' := [(1, .int (11 : Int32)), (0, .ref (b + v0))]) hx hb d_Li_init_44 hl (k := 0) rfl (by decide) (by decide) rfl (fun ls hl => ?_)
  refine lv_goto (tgt := 23) hx hb d_Li_init_47 (by decide) ?_
  refine lv_iload_n hx hb d_Li_init_23 rfl (lv_at hl 0 rfl) ?_
  refine lv_bipush (v := 16) hx hb d_Li_init_24 (by decide) ?_
  refine lv_icmp_ge (tgt := 50) hx hb d_Li_init_26 (by decide) (fun hq => absurd hq (by decide)) (fun hq => ?_)
  refine lv_aload_n hx hb d_Li_init_29 rfl (lv_at hl 1 rfl) ?_
  refine ob_getR (k := 0) Cx hP ck_1 rfl w_f_Li_11 d_Li_init_30 h (fun n30_41 h => ?_)
  refine lv_iload_n hx hb d_Li_init_33 rfl (lv_at hl 0 rfl) ?_
  refine ob_newO Cx hP hS ck_0 hz w_k_Li_9 w_q_0 w_i_By nf_0 (by omega) (by omega) d_Li_init_34 (fun H hP hS hz => ?_)
  obtain ⟨t34_42, et34_42, h⟩ := ob_b_some h
  rw [Option.some.inj et34_42] at hP hz
  refine lv_dup hx hb d_Li_init_37 rfl ?_
  refine lv_bipush (v := 48) hx hb d_Li_init_38 (by decide) ?_
  refine ob_cI (nA := 1) (As := [.int (48 : Int32)]) (rest := [.ref (b + (ob_n t43_40)), .int (11 : Int32), .ref (b + n30_41)]) hz Cx hl.1 hP hS (fun o ho => c_By_init (ob_n t43_40) (48 : Int32) ho) mi_By_init w_m_Li_21 rfl (by decide +kernel) ⟨rfl, rfl⟩ ⟨by decide, by decide⟩ ⟨by omega, by omega⟩ (Nat.le_of_ble_eq_true rfl) rfl d_Li_init_40 h (fun t40_43 H locs h hP hS hz => ?_)
  refine ob_astRz (kd := 14) hz Cx hP hS (by decide) (by decide) (rfl : ob_cl[0]? = _) rfl d_Li_init_43 h (fun t43_44 H locs h hP hS hz => ?_)
  refine lv_iinc (v := (12 : Int32)) (lv' := [(1, .int (12 : Int32)), (0, .ref (b + v0))]) hx hb d_Li_init_44 hl (k := 0) rfl (by decide) (by decide) rfl (fun ls hl => ?_)
  refine lv_goto (tgt := 23) hx hb d_Li_init_47 (by decide) ?_
  refine lv_iload_n hx hb d_Li_init_23 rfl (lv_at hl 0 rfl) ?_
  refine lv_bipush (v := 16) hx hb d_Li_init_24 (by decide) ?_
  refine lv_icmp_ge (tgt := 50) hx hb d_Li_init_26 (by decide) (fun hq => absurd hq (by decide)) (fun hq => ?_)
  refine lv_aload_n hx hb d_Li_init_29 rfl (lv_at hl 1 rfl) ?_
  refine ob_getR (k := 0) Cx hP ck_1 rfl w_f_Li_11 d_Li_init_30 h (fun n30_45 h => ?_)
  refine lv_iload_n hx hb d_Li_init_33 rfl (lv_at hl 0 rfl) ?_
  refine ob_newO Cx hP hS ck_0 hz w_k_Li_9 w_q_0 w_i_By nf_0 (by omega) (by omega) d_Li_init_34 (fun H hP hS hz => ?_)
  obtain ⟨t34_46, et34_46, h⟩ := ob_b_some h
  rw [Option.some.inj et34_46] at hP hz
  refine lv_dup hx hb d_Li_init_37 rfl ?_
  refine lv_bipush (v := 48) hx hb d_Li_init_38 (by decide) ?_
  refine ob_cI (nA := 1) (As := [.int (48 : Int32)]) (rest := [.ref (b + (ob_n t43_44)), .int (12 : Int32), .ref (b + n30_45)]) hz Cx hl.1 hP hS (fun o ho => c_By_init (ob_n t43_44) (48 : Int32) ho) mi_By_init w_m_Li_21 rfl (by decide +kernel) ⟨rfl, rfl⟩ ⟨by decide, by decide⟩ ⟨by omega, by omega⟩ (Nat.le_of_ble_eq_true rfl) rfl d_Li_init_40 h (fun t40_47 H locs h hP hS hz => ?_)
  refine ob_astRz (kd := 14) hz Cx hP hS (by decide) (by decide) (rfl : ob_cl[0]? = _) rfl d_Li_init_43 h (fun t43_48 H locs h hP hS hz => ?_)
  refine lv_iinc (v := (13 : Int32)) (lv' := [(1, .int (13 : Int32)), (0, .ref (b + v0))]) hx hb d_Li_init_44 hl (k := 0) rfl (by decide) (by decide) rfl (fun ls hl => ?_)
  refine lv_goto (tgt := 23) hx hb d_Li_init_47 (by decide) ?_
  refine lv_iload_n hx hb d_Li_init_23 rfl (lv_at hl 0 rfl) ?_
  refine lv_bipush (v := 16) hx hb d_Li_init_24 (by decide) ?_
  refine lv_icmp_ge (tgt := 50) hx hb d_Li_init_26 (by decide) (fun hq => absurd hq (by decide)) (fun hq => ?_)
  refine lv_aload_n hx hb d_Li_init_29 rfl (lv_at hl 1 rfl) ?_
  refine ob_getR (k := 0) Cx hP ck_1 rfl w_f_Li_11 d_Li_init_30 h (fun n30_49 h => ?_)
  refine lv_iload_n hx hb d_Li_init_33 rfl (lv_at hl 0 rfl) ?_
  refine ob_newO Cx hP hS ck_0 hz w_k_Li_9 w_q_0 w_i_By nf_0 (by omega) (by omega) d_Li_init_34 (fun H hP hS hz => ?_)
  obtain ⟨t34_50, et34_50, h⟩ := ob_b_some h
  rw [Option.some.inj et34_50] at hP hz
  refine lv_dup hx hb d_Li_init_37 rfl ?_
  refine lv_bipush (v := 48) hx hb d_Li_init_38 (by decide) ?_
  refine ob_cI (nA := 1) (As := [.int (48 : Int32)]) (rest := [.ref (b + (ob_n t43_48)), .int (13 : Int32), .ref (b + n30_49)]) hz Cx hl.1 hP hS (fun o ho => c_By_init (ob_n t43_48) (48 : Int32) ho) mi_By_init w_m_Li_21 rfl (by decide +kernel) ⟨rfl, rfl⟩ ⟨by decide, by decide⟩ ⟨by omega, by omega⟩ (Nat.le_of_ble_eq_true rfl) rfl d_Li_init_40 h (fun t40_51 H locs h hP hS hz => ?_)
  refine ob_astRz (kd := 14) hz Cx hP hS (by decide) (by decide) (rfl : ob_cl[0]? = _) rfl d_Li_init_43 h (fun t43_52 H locs h hP hS hz => ?_)
  refine lv_iinc (v := (14 : Int32)) (lv' := [(1, .int (14 : Int32)), (0, .ref (b + v0))]) hx hb d_Li_init_44 hl (k := 0) rfl (by decide) (by decide) rfl (fun ls hl => ?_)
  refine lv_goto (tgt := 23) hx hb d_Li_init_47 (by decide) ?_
  refine lv_iload_n hx hb d_Li_init_23 rfl (lv_at hl 0 rfl) ?_
  refine lv_bipush (v := 16) hx hb d_Li_init_24 (by decide) ?_
  refine lv_icmp_ge (tgt := 50) hx hb d_Li_init_26 (by decide) (fun hq => absurd hq (by decide)) (fun hq => ?_)
  refine lv_aload_n hx hb d_Li_init_29 rfl (lv_at hl 1 rfl) ?_
  refine ob_getR (k := 0) Cx hP ck_1 rfl w_f_Li_11 d_Li_init_30 h (fun n30_53 h => ?_)
  refine lv_iload_n hx hb d_Li_init_33 rfl (lv_at hl 0 rfl) ?_
  refine ob_newO Cx hP hS ck_0 hz w_k_Li_9 w_q_0 w_i_By nf_0 (by omega) (by omega) d_Li_init_34 (fun H hP hS hz => ?_)
  obtain ⟨t34_54, et34_54, h⟩ := ob_b_some h
  rw [Option.some.inj et34_54] at hP hz
  refine lv_dup hx hb d_Li_init_37 rfl ?_
  refine lv_bipush (v := 48) hx hb d_Li_init_38 (by decide) ?_
  refine ob_cI (nA := 1) (As := [.int (48 : Int32)]) (rest := [.ref (b + (ob_n t43_52)), .int (14 : Int32), .ref (b + n30_53)]) hz Cx hl.1 hP hS (fun o ho => c_By_init (ob_n t43_52) (48 : Int32) ho) mi_By_init w_m_Li_21 rfl (by decide +kernel) ⟨rfl, rfl⟩ ⟨by decide, by decide⟩ ⟨by omega, by omega⟩ (Nat.le_of_ble_eq_true rfl) rfl d_Li_init_40 h (fun t40_55 H locs h hP hS hz => ?_)
  refine ob_astRz (kd := 14) hz Cx hP hS (by decide) (by decide) (rfl : ob_cl[0]? = _) rfl d_Li_init_43 h (fun t43_56 H locs h hP hS hz => ?_)
  refine lv_iinc (v := (15 : Int32)) (lv' := [(1, .int (15 : Int32)), (0, .ref (b + v0))]) hx hb d_Li_init_44 hl (k := 0) rfl (by decide) (by decide) rfl (fun ls hl => ?_)
  refine lv_goto (tgt := 23) hx hb d_Li_init_47 (by decide) ?_
  refine lv_iload_n hx hb d_Li_init_23 rfl (lv_at hl 0 rfl) ?_
  refine lv_bipush (v := 16) hx hb d_Li_init_24 (by decide) ?_
  refine lv_icmp_ge (tgt := 50) hx hb d_Li_init_26 (by decide) (fun hq => absurd hq (by decide)) (fun hq => ?_)
  refine lv_aload_n hx hb d_Li_init_29 rfl (lv_at hl 1 rfl) ?_
  refine ob_getR (k := 0) Cx hP ck_1 rfl w_f_Li_11 d_Li_init_30 h (fun n30_57 h => ?_)
  refine lv_iload_n hx hb d_Li_init_33 rfl (lv_at hl 0 rfl) ?_
  refine ob_newO Cx hP hS ck_0 hz w_k_Li_9 w_q_0 w_i_By nf_0 (by omega) (by omega) d_Li_init_34 (fun H hP hS hz => ?_)
  obtain ⟨t34_58, et34_58, h⟩ := ob_b_some h
  rw [Option.some.inj et34_58] at hP hz
  refine lv_dup hx hb d_Li_init_37 rfl ?_
  refine lv_bipush (v := 48) hx hb d_Li_init_38 (by decide) ?_
  refine ob_cI (nA := 1) (As := [.int (48 : Int32)]) (rest := [.ref (b + (ob_n t43_56)), .int (15 : Int32), .ref (b + n30_57)]) hz Cx hl.1 hP hS (fun o ho => c_By_init (ob_n t43_56) (48 : Int32) ho) mi_By_init w_m_Li_21 rfl (by decide +kernel) ⟨rfl, rfl⟩ ⟨by decide, by decide⟩ ⟨by omega, by omega⟩ (Nat.le_of_ble_eq_true rfl) rfl d_Li_init_40 h (fun t40_59 H locs h hP hS hz => ?_)
  refine ob_astRz (kd := 14) hz Cx hP hS (by decide) (by decide) (rfl : ob_cl[0]? = _) rfl d_Li_init_43 h (fun t43_60 H locs h hP hS hz => ?_)
  refine lv_iinc (v := (16 : Int32)) (lv' := [(1, .int (16 : Int32)), (0, .ref (b + v0))]) hx hb d_Li_init_44 hl (k := 0) rfl (by decide) (by decide) rfl (fun ls hl => ?_)
  refine lv_goto (tgt := 23) hx hb d_Li_init_47 (by decide) ?_
  refine lv_iload_n hx hb d_Li_init_23 rfl (lv_at hl 0 rfl) ?_
  refine lv_bipush (v := 16) hx hb d_Li_init_24 (by decide) ?_
  refine lv_icmp_ge (tgt := 50) hx hb d_Li_init_26 (by decide) (fun hq => ?_) (fun hq => absurd (by decide) hq)
  refine lv_aload_n hx hb d_Li_init_50 rfl (lv_at hl 1 rfl) ?_
  refine lv_iconst (v := 0) hx hb d_Li_init_51 (by decide) ?_
  refine ob_putIz (k := 2) hz Cx hP hS ck_1 rfl rfl rfl w_f_Li_24 d_Li_init_52 h (fun t52 H locs h hP hS hz => ?_)
  exact ob_vretC hz hz0 (by omega) (by omega) Cx hP hS d_Li_init_55 h
set_option maxHeartbeats 4000000 in
set_option maxRecDepth 100000 in
theorem c_Pe_init {l : Launch} {b : Nat} {D : va_G} {cA : Nat → ClassId} {adK adV : Nat → Nat} (v0 : Nat) {t : ob_S} {out : ob_S} (h : X_Pe_init v0 t = some out) : Met l y_Pe_init (Cond.code y_Pe_init cb_Pe_init 1 none :: ob_T) { frames := 2, cells := 2, slots := 82, locals := 41 } (ob_PreC b D cA adK adV [.ref (b + v0)] t) (ob_QC b D cA (ob_n t + 2) out) 2 82 (ob_A b) := by
  refine ob_metC (by decide) rfl (Nat.le_of_ble_eq_true rfl) ?_
  intro p e R s m args below meth c ls Cx hin hR hz hP hS hl
  have hl : lv_has ls 1 [(0, .ref (b + v0))] := hl
  have hx := Cx.1.1
  have hb := Cx.1.2.1
  have hz0 : s.heap.size = b + ob_n t := hz
  obtain ⟨hRc, hRs⟩ := hR
  unfold X_Pe_init at h
  obtain ⟨H, hH⟩ : ∃ H, H = s.heap := ⟨_, rfl⟩
  obtain ⟨locs, hL⟩ : ∃ locs : List Loc, locs = [] := ⟨_, rfl⟩
  rw [← hH] at hP
  have hS : va_S (ob_A b) s.heap H locs := by rw [hH, hL]; exact hS
  suffices hW : W p l e R s m args below meth c H locs 0 0 (MQ below (ob_QC b D cA (ob_n t + 2) out) args s 2 82 (ob_A b)) (F0 m 0 ls []) by rw [hH, hL] at hW; exact hW
  refine lv_aload_n hx hb d_Pe_init_0 rfl (lv_at hl 0 rfl) ?_
  refine ob_oinit Cx hl.1 (by decide) (Nat.le_of_ble_eq_true rfl) w_m_Pe_3 d_Pe_init_1 ?_
  refine lv_aload_n hx hb d_Pe_init_4 rfl (lv_at hl 0 rfl) ?_
  refine ob_newO Cx hP hS ck_0 hz w_k_Pe_9 w_q_0 w_i_By nf_0 (by omega) (by omega) d_Pe_init_5 (fun H hP hS hz => ?_)
  obtain ⟨t5, et5, h⟩ := ob_b_some h
  rw [Option.some.inj et5] at hP hz
  refine lv_dup hx hb d_Pe_init_8 rfl ?_
  refine lv_bipush (v := 48) hx hb d_Pe_init_9 (by decide) ?_
  refine ob_cI (nA := 1) (As := [.int (48 : Int32)]) (rest := [.ref (b + (ob_n t)), .ref (b + v0)]) hz Cx hl.1 hP hS (fun o ho => c_By_init (ob_n t) (48 : Int32) ho) mi_By_init w_m_Pe_11 rfl (by decide +kernel) ⟨rfl, rfl⟩ ⟨by decide, by decide⟩ ⟨by omega, by omega⟩ (Nat.le_of_ble_eq_true rfl) rfl d_Pe_init_11 h (fun t11 H locs h hP hS hz => ?_)
  refine ob_putFR (k := 0) hz hin rfl Cx hP hS ck_3 rfl rfl rfl rfl w_f_Pe_14 d_Pe_init_14 h (fun t14 H locs h hP hS hz => ?_)
  refine lv_aload_n hx hb d_Pe_init_17 rfl (lv_at hl 0 rfl) ?_
  refine lv_iconst (v := 0) hx hb d_Pe_init_18 (by decide) ?_
  refine ob_putZz (k := 2) hz Cx hP hS ck_3 rfl rfl rfl w_f_Pe_20 d_Pe_init_19 h (fun t19 H locs h hP hS hz => ?_)
  exact ob_vretC hz hz0 (by omega) (by omega) Cx hP hS d_Pe_init_22 h
set_option maxHeartbeats 4000000 in
set_option maxRecDepth 100000 in
theorem c_Sl_init {l : Launch} {b : Nat} {D : va_G} {cA : Nat → ClassId} {adK adV : Nat → Nat} (v0 : Nat) (v1 : Int32) {t : ob_S} {out : ob_S} (h : X_Sl_init v0 v1 t = some out) : Met l y_Sl_init (Cond.code y_Sl_init cb_Sl_init 2 none :: ob_T) { frames := 3, cells := 5, slots := 170, locals := 61 } (ob_PreC b D cA adK adV [.ref (b + v0), .int v1] t) (ob_QC b D cA (ob_n t + 5) out) 5 170 (ob_A b) := by
  refine ob_metC (by decide) rfl (Nat.le_of_ble_eq_true rfl) ?_
  intro p e R s m args below meth c ls Cx hin hR hz hP hS hl
  have hl : lv_has ls 2 [(0, .ref (b + v0)), (1, .int v1)] := hl
  have hx := Cx.1.1
  have hb := Cx.1.2.1
  have hz0 : s.heap.size = b + ob_n t := hz
  obtain ⟨hRc, hRs⟩ := hR
  unfold X_Sl_init at h
  obtain ⟨H, hH⟩ : ∃ H, H = s.heap := ⟨_, rfl⟩
  obtain ⟨locs, hL⟩ : ∃ locs : List Loc, locs = [] := ⟨_, rfl⟩
  rw [← hH] at hP
  have hS : va_S (ob_A b) s.heap H locs := by rw [hH, hL]; exact hS
  suffices hW : W p l e R s m args below meth c H locs 0 0 (MQ below (ob_QC b D cA (ob_n t + 5) out) args s 5 170 (ob_A b)) (F0 m 0 ls []) by rw [hH, hL] at hW; exact hW
  refine lv_aload_n hx hb d_Sl_init_0 rfl (lv_at hl 0 rfl) ?_
  refine ob_oinit Cx hl.1 (by decide) (Nat.le_of_ble_eq_true rfl) w_m_Sl_3 d_Sl_init_1 ?_
  refine lv_aload_n hx hb d_Sl_init_4 rfl (lv_at hl 0 rfl) ?_
  refine ob_newO Cx hP hS ck_0 hz w_k_Sl_9 w_q_0 w_i_By nf_0 (by omega) (by omega) d_Sl_init_5 (fun H hP hS hz => ?_)
  obtain ⟨t5, et5, h⟩ := ob_b_some h
  rw [Option.some.inj et5] at hP hz
  refine lv_dup hx hb d_Sl_init_8 rfl ?_
  refine lv_bipush (v := 80) hx hb d_Sl_init_9 (by decide) ?_
  refine ob_cI (nA := 1) (As := [.int (80 : Int32)]) (rest := [.ref (b + (ob_n t)), .ref (b + v0)]) hz Cx hl.1 hP hS (fun o ho => c_By_init (ob_n t) (80 : Int32) ho) mi_By_init w_m_Sl_11 rfl (by decide +kernel) ⟨rfl, rfl⟩ ⟨by decide, by decide⟩ ⟨by omega, by omega⟩ (Nat.le_of_ble_eq_true rfl) rfl d_Sl_init_11 h (fun t11 H locs h hP hS hz => ?_)
  refine ob_putFR (k := 0) hz hin rfl Cx hP hS ck_6 rfl rfl rfl rfl w_f_Sl_14 d_Sl_init_14 h (fun t14 H locs h hP hS hz => ?_)
  refine lv_aload_n hx hb d_Sl_init_17 rfl (lv_at hl 0 rfl) ?_
  refine ob_newO Cx hP hS ck_3 hz w_k_Sl_20 w_q_3 w_i_Pe nf_3 (by omega) (by omega) d_Sl_init_18 (fun H hP hS hz => ?_)
  obtain ⟨t18, et18, h⟩ := ob_b_some h
  rw [Option.some.inj et18] at hP hz
  refine lv_dup hx hb d_Sl_init_21 rfl ?_
  refine ob_cI (nA := 0) (As := []) (rest := [.ref (b + (ob_n t14)), .ref (b + v0)]) hz Cx hl.1 hP hS (fun o ho => c_Pe_init (ob_n t14) ho) mi_Pe_init w_m_Sl_22 rfl (by decide +kernel) ⟨rfl, rfl⟩ ⟨by decide, by decide⟩ ⟨by omega, by omega⟩ (Nat.le_of_ble_eq_true rfl) rfl d_Sl_init_22 h (fun t22 H locs h hP hS hz => ?_)
  refine ob_putFR (k := 1) hz hin rfl Cx hP hS ck_6 rfl rfl rfl rfl w_f_Sl_23 d_Sl_init_25 h (fun t25 H locs h hP hS hz => ?_)
  refine lv_aload_n hx hb d_Sl_init_28 rfl (lv_at hl 0 rfl) ?_
  refine lv_iload_n hx hb d_Sl_init_29 rfl (lv_at hl 1 rfl) ?_
  refine ob_putFI (k := 8) hz hin rfl Cx hP hS ck_6 rfl rfl rfl w_f_Sl_27 d_Sl_init_30 h (fun t30 H locs h hP hS hz => ?_)
  refine lv_aload_n hx hb d_Sl_init_33 rfl (lv_at hl 0 rfl) ?_
  refine lv_iconst (v := 0) hx hb d_Sl_init_34 (by decide) ?_
  refine ob_putIz (k := 9) hz Cx hP hS ck_6 rfl rfl rfl w_f_Sl_31 d_Sl_init_35 h (fun t35 H locs h hP hS hz => ?_)
  refine lv_aload_n hx hb d_Sl_init_38 rfl (lv_at hl 0 rfl) ?_
  refine lv_iconst (v := 0) hx hb d_Sl_init_39 (by decide) ?_
  refine ob_putIz (k := 2) hz Cx hP hS ck_6 rfl rfl rfl w_f_Sl_34 d_Sl_init_40 h (fun t40 H locs h hP hS hz => ?_)
  exact ob_vretC hz hz0 (by omega) (by omega) Cx hP hS d_Sl_init_43 h
set_option maxHeartbeats 4000000 in
set_option maxRecDepth 100000 in
theorem c_Wr_init {l : Launch} {b : Nat} {D : va_G} {cA : Nat → ClassId} {adK adV : Nat → Nat} (v0 : Nat) {t : ob_S} {out : ob_S} (h : X_Wr_init v0 t = some out) : Met l y_Wr_init (Cond.code y_Wr_init cb_Wr_init 1 none :: ob_T) { frames := 2, cells := 2, slots := 82, locals := 41 } (ob_PreC b D cA adK adV [.ref (b + v0)] t) (ob_QC b D cA (ob_n t + 2) out) 2 82 (ob_A b) := by
  refine ob_metC (by decide) rfl (Nat.le_of_ble_eq_true rfl) ?_
  intro p e R s m args below meth c ls Cx hin hR hz hP hS hl
  have hl : lv_has ls 1 [(0, .ref (b + v0))] := hl
  have hx := Cx.1.1
  have hb := Cx.1.2.1
  have hz0 : s.heap.size = b + ob_n t := hz
  obtain ⟨hRc, hRs⟩ := hR
  unfold X_Wr_init at h
  obtain ⟨H, hH⟩ : ∃ H, H = s.heap := ⟨_, rfl⟩
  obtain ⟨locs, hL⟩ : ∃ locs : List Loc, locs = [] := ⟨_, rfl⟩
  rw [← hH] at hP
  have hS : va_S (ob_A b) s.heap H locs := by rw [hH, hL]; exact hS
  suffices hW : W p l e R s m args below meth c H locs 0 0 (MQ below (ob_QC b D cA (ob_n t + 2) out) args s 2 82 (ob_A b)) (F0 m 0 ls []) by rw [hH, hL] at hW; exact hW
  refine lv_aload_n hx hb d_Wr_init_0 rfl (lv_at hl 0 rfl) ?_
  refine ob_oinit Cx hl.1 (by decide) (Nat.le_of_ble_eq_true rfl) w_m_Wr_3 d_Wr_init_1 ?_
  refine lv_aload_n hx hb d_Wr_init_4 rfl (lv_at hl 0 rfl) ?_
  refine ob_newO Cx hP hS ck_0 hz w_k_Wr_9 w_q_0 w_i_By nf_0 (by omega) (by omega) d_Wr_init_5 (fun H hP hS hz => ?_)
  obtain ⟨t5, et5, h⟩ := ob_b_some h
  rw [Option.some.inj et5] at hP hz
  refine lv_dup hx hb d_Wr_init_8 rfl ?_
  refine lv_bipush (v := 48) hx hb d_Wr_init_9 (by decide) ?_
  refine ob_cI (nA := 1) (As := [.int (48 : Int32)]) (rest := [.ref (b + (ob_n t)), .ref (b + v0)]) hz Cx hl.1 hP hS (fun o ho => c_By_init (ob_n t) (48 : Int32) ho) mi_By_init w_m_Wr_11 rfl (by decide +kernel) ⟨rfl, rfl⟩ ⟨by decide, by decide⟩ ⟨by omega, by omega⟩ (Nat.le_of_ble_eq_true rfl) rfl d_Wr_init_11 h (fun t11 H locs h hP hS hz => ?_)
  refine ob_putFR (k := 0) hz hin rfl Cx hP hS ck_4 rfl rfl rfl rfl w_f_Wr_14 d_Wr_init_14 h (fun t14 H locs h hP hS hz => ?_)
  refine lv_aload_n hx hb d_Wr_init_17 rfl (lv_at hl 0 rfl) ?_
  refine lv_iconst (v := 0) hx hb d_Wr_init_18 (by decide) ?_
  refine ob_putIz (k := 1) hz Cx hP hS ck_4 rfl rfl rfl w_f_Wr_20 d_Wr_init_19 h (fun t19 H locs h hP hS hz => ?_)
  exact ob_vretC hz hz0 (by omega) (by omega) Cx hP hS d_Wr_init_22 h
set_option maxHeartbeats 4000000 in
set_option maxRecDepth 100000 in
theorem c_Cl_init {l : Launch} {b : Nat} {D : va_G} {cA : Nat → ClassId} {adK adV : Nat → Nat} (v0 : Nat) (v1 : Nat) {t : ob_S} {out : ob_S} (h : X_Cl_init v0 v1 t = some out) : Met l y_Cl_init (Cond.code y_Cl_init cb_Cl_init 3 none :: ob_T) { frames := 4, cells := 16, slots := 454, locals := 82 } (ob_PreC b D cA adK adV [.ref (b + v0), .ref (b + v1)] t) (ob_QC b D cA (ob_n t + 16) out) 16 454 (ob_A b) := by
  refine ob_metC (by decide) rfl (Nat.le_of_ble_eq_true rfl) ?_
  intro p e R s m args below meth c ls Cx hin hR hz hP hS hl
  have hl : lv_has ls 3 [(0, .ref (b + v0)), (1, .ref (b + v1))] := hl
  have hx := Cx.1.1
  have hb := Cx.1.2.1
  have hz0 : s.heap.size = b + ob_n t := hz
  obtain ⟨hRc, hRs⟩ := hR
  unfold X_Cl_init at h
  obtain ⟨H, hH⟩ : ∃ H, H = s.heap := ⟨_, rfl⟩
  obtain ⟨locs, hL⟩ : ∃ locs : List Loc, locs = [] := ⟨_, rfl⟩
  rw [← hH] at hP
  have hS : va_S (ob_A b) s.heap H locs := by rw [hH, hL]; exact hS
  suffices hW : W p l e R s m args below meth c H locs 0 0 (MQ below (ob_QC b D cA (ob_n t + 16) out) args s 16 454 (ob_A b)) (F0 m 0 ls []) by rw [hH, hL] at hW; exact hW
  refine lv_aload_n hx hb d_Cl_init_0 rfl (lv_at hl 0 rfl) ?_
  refine ob_oinit Cx hl.1 (by decide) (Nat.le_of_ble_eq_true rfl) w_m_Cl_3 d_Cl_init_1 ?_
  refine lv_aload_n hx hb d_Cl_init_4 rfl (lv_at hl 0 rfl) ?_
  refine lv_iconst (v := 2) hx hb d_Cl_init_5 (by decide) ?_
  refine ob_newR (kd := 15) (mx := 2) Cx hP hS hz (by decide) (by decide) rfl w_k_Cl_9 Cx.2.1.2.2.2.2.2.2.1 (by omega) (by omega) d_Cl_init_6 h (fun t6 H h _ hP hS hz => ?_)
  refine ob_putFR (k := 0) hz hin rfl Cx hP hS ck_7 rfl rfl rfl rfl w_f_Cl_11 d_Cl_init_9 h (fun t9 H locs h hP hS hz => ?_)
  refine lv_iconst (v := 0) hx hb d_Cl_init_12 (by decide) ?_
  refine lv_istore_n (lv' := [(2, .int (0 : Int32)), (0, .ref (b + v0)), (1, .ref (b + v1))]) hx hb d_Cl_init_13 rfl hl (by decide) rfl (fun ls hl => ?_)
  refine lv_iload_n hx hb d_Cl_init_14 rfl (lv_at hl 0 rfl) ?_
  refine lv_iconst (v := 2) hx hb d_Cl_init_15 (by decide) ?_
  refine lv_icmp_ge (tgt := 39) hx hb d_Cl_init_16 (by decide) (fun hq => absurd hq (by decide)) (fun hq => ?_)
  refine lv_aload_n hx hb d_Cl_init_19 rfl (lv_at hl 1 rfl) ?_
  refine ob_getR (k := 0) Cx hP ck_7 rfl w_f_Cl_11 d_Cl_init_20 h (fun n20 h => ?_)
  refine lv_iload_n hx hb d_Cl_init_23 rfl (lv_at hl 0 rfl) ?_
  refine ob_newO Cx hP hS ck_6 hz w_k_Cl_9 w_q_6 w_i_Sl nf_6 (by omega) (by omega) d_Cl_init_24 (fun H hP hS hz => ?_)
  obtain ⟨t24, et24, h⟩ := ob_b_some h
  rw [Option.some.inj et24] at hP hz
  refine lv_dup hx hb d_Cl_init_27 rfl ?_
  refine lv_iload_n hx hb d_Cl_init_28 rfl (lv_at hl 0 rfl) ?_
  refine ob_cI (nA := 1) (As := [.int (0 : Int32)]) (rest := [.ref (b + (ob_n t9)), .int (0 : Int32), .ref (b + n20)]) hz Cx hl.1 hP hS (fun o ho => c_Sl_init (ob_n t9) (0 : Int32) ho) mi_Sl_init w_m_Cl_17 rfl (by decide +kernel) ⟨rfl, rfl⟩ ⟨by decide, by decide⟩ ⟨by omega, by omega⟩ (Nat.le_of_ble_eq_true rfl) rfl d_Cl_init_29 h (fun t29 H locs h hP hS hz => ?_)
  refine ob_astRz (kd := 15) hz Cx hP hS (by decide) (by decide) (rfl : ob_cl[6]? = _) rfl d_Cl_init_32 h (fun t32 H locs h hP hS hz => ?_)
  refine lv_iinc (v := (1 : Int32)) (lv' := [(2, .int (1 : Int32)), (0, .ref (b + v0)), (1, .ref (b + v1))]) hx hb d_Cl_init_33 hl (k := 0) rfl (by decide) (by decide) rfl (fun ls hl => ?_)
  refine lv_goto (tgt := 14) hx hb d_Cl_init_36 (by decide) ?_
  refine lv_iload_n hx hb d_Cl_init_14 rfl (lv_at hl 0 rfl) ?_
  refine lv_iconst (v := 2) hx hb d_Cl_init_15 (by decide) ?_
  refine lv_icmp_ge (tgt := 39) hx hb d_Cl_init_16 (by decide) (fun hq => absurd hq (by decide)) (fun hq => ?_)
  refine lv_aload_n hx hb d_Cl_init_19 rfl (lv_at hl 1 rfl) ?_
  refine ob_getR (k := 0) Cx hP ck_7 rfl w_f_Cl_11 d_Cl_init_20 h (fun n20_1 h => ?_)
  refine lv_iload_n hx hb d_Cl_init_23 rfl (lv_at hl 0 rfl) ?_
  refine ob_newO Cx hP hS ck_6 hz w_k_Cl_9 w_q_6 w_i_Sl nf_6 (by omega) (by omega) d_Cl_init_24 (fun H hP hS hz => ?_)
  obtain ⟨t24_2, et24_2, h⟩ := ob_b_some h
  rw [Option.some.inj et24_2] at hP hz
  refine lv_dup hx hb d_Cl_init_27 rfl ?_
  refine lv_iload_n hx hb d_Cl_init_28 rfl (lv_at hl 0 rfl) ?_
  refine ob_cI (nA := 1) (As := [.int (1 : Int32)]) (rest := [.ref (b + (ob_n t32)), .int (1 : Int32), .ref (b + n20_1)]) hz Cx hl.1 hP hS (fun o ho => c_Sl_init (ob_n t32) (1 : Int32) ho) mi_Sl_init w_m_Cl_17 rfl (by decide +kernel) ⟨rfl, rfl⟩ ⟨by decide, by decide⟩ ⟨by omega, by omega⟩ (Nat.le_of_ble_eq_true rfl) rfl d_Cl_init_29 h (fun t29_3 H locs h hP hS hz => ?_)
  refine ob_astRz (kd := 15) hz Cx hP hS (by decide) (by decide) (rfl : ob_cl[6]? = _) rfl d_Cl_init_32 h (fun t32_4 H locs h hP hS hz => ?_)
  refine lv_iinc (v := (2 : Int32)) (lv' := [(2, .int (2 : Int32)), (0, .ref (b + v0)), (1, .ref (b + v1))]) hx hb d_Cl_init_33 hl (k := 0) rfl (by decide) (by decide) rfl (fun ls hl => ?_)
  refine lv_goto (tgt := 14) hx hb d_Cl_init_36 (by decide) ?_
  refine lv_iload_n hx hb d_Cl_init_14 rfl (lv_at hl 0 rfl) ?_
  refine lv_iconst (v := 2) hx hb d_Cl_init_15 (by decide) ?_
  refine lv_icmp_ge (tgt := 39) hx hb d_Cl_init_16 (by decide) (fun hq => ?_) (fun hq => absurd (by decide) hq)
  refine lv_aload_n hx hb d_Cl_init_39 rfl (lv_at hl 1 rfl) ?_
  refine lv_aload_n hx hb d_Cl_init_40 rfl (lv_at hl 2 rfl) ?_
  refine ob_putFR (k := 1) hz hin rfl Cx hP hS ck_7 rfl rfl rfl rfl w_f_Cl_20 d_Cl_init_41 h (fun t41 H locs h hP hS hz => ?_)
  refine lv_aload_n hx hb d_Cl_init_44 rfl (lv_at hl 1 rfl) ?_
  refine ob_newO Cx hP hS ck_4 hz w_k_Cl_24 w_q_4 w_i_Wr nf_4 (by omega) (by omega) d_Cl_init_45 (fun H hP hS hz => ?_)
  obtain ⟨t45, et45, h⟩ := ob_b_some h
  rw [Option.some.inj et45] at hP hz
  refine lv_dup hx hb d_Cl_init_48 rfl ?_
  refine ob_cI (nA := 0) (As := []) (rest := [.ref (b + (ob_n t41)), .ref (b + v0)]) hz Cx hl.1 hP hS (fun o ho => c_Wr_init (ob_n t41) ho) mi_Wr_init w_m_Cl_26 rfl (by decide +kernel) ⟨rfl, rfl⟩ ⟨by decide, by decide⟩ ⟨by omega, by omega⟩ (Nat.le_of_ble_eq_true rfl) rfl d_Cl_init_49 h (fun t49 H locs h hP hS hz => ?_)
  refine ob_putFR (k := 2) hz hin rfl Cx hP hS ck_7 rfl rfl rfl rfl w_f_Cl_27 d_Cl_init_52 h (fun t52 H locs h hP hS hz => ?_)
  refine lv_aload_n hx hb d_Cl_init_55 rfl (lv_at hl 1 rfl) ?_
  refine lv_iconst (v := 1) hx hb d_Cl_init_56 (by decide) ?_
  refine ob_putIz (k := 3) hz Cx hP hS ck_7 rfl rfl rfl w_f_Cl_31 d_Cl_init_57 h (fun t57 H locs h hP hS hz => ?_)
  exact ob_vretC hz hz0 (by omega) (by omega) Cx hP hS d_Cl_init_60 h
set_option maxHeartbeats 4000000 in
set_option maxRecDepth 100000 in
theorem c_Wa_init {l : Launch} {b : Nat} {D : va_G} {cA : Nat → ClassId} {adK adV : Nat → Nat} (v0 : Nat) {t : ob_S} {out : ob_S} (h : X_Wa_init v0 t = some out) : Met l y_Wa_init (Cond.code y_Wa_init cb_Wa_init 1 none :: ob_T) { frames := 3, cells := 3, slots := 88, locals := 61 } (ob_PreC b D cA adK adV [.ref (b + v0)] t) (ob_QC b D cA (ob_n t + 3) out) 3 88 (ob_A b) := by
  refine ob_metC (by decide) rfl (Nat.le_of_ble_eq_true rfl) ?_
  intro p e R s m args below meth c ls Cx hin hR hz hP hS hl
  have hl : lv_has ls 1 [(0, .ref (b + v0))] := hl
  have hx := Cx.1.1
  have hb := Cx.1.2.1
  have hz0 : s.heap.size = b + ob_n t := hz
  obtain ⟨hRc, hRs⟩ := hR
  unfold X_Wa_init at h
  obtain ⟨H, hH⟩ : ∃ H, H = s.heap := ⟨_, rfl⟩
  obtain ⟨locs, hL⟩ : ∃ locs : List Loc, locs = [] := ⟨_, rfl⟩
  rw [← hH] at hP
  have hS : va_S (ob_A b) s.heap H locs := by rw [hH, hL]; exact hS
  suffices hW : W p l e R s m args below meth c H locs 0 0 (MQ below (ob_QC b D cA (ob_n t + 3) out) args s 3 88 (ob_A b)) (F0 m 0 ls []) by rw [hH, hL] at hW; exact hW
  refine lv_aload_n hx hb d_Wa_init_0 rfl (lv_at hl 0 rfl) ?_
  refine ob_oinit Cx hl.1 (by decide) (Nat.le_of_ble_eq_true rfl) w_m_Wa_1 d_Wa_init_1 ?_
  refine lv_aload_n hx hb d_Wa_init_4 rfl (lv_at hl 0 rfl) ?_
  refine ob_newO Cx hP hS ck_3 hz w_k_Wa_7 w_q_3 w_i_Pe nf_3 (by omega) (by omega) d_Wa_init_5 (fun H hP hS hz => ?_)
  obtain ⟨t5, et5, h⟩ := ob_b_some h
  rw [Option.some.inj et5] at hP hz
  refine lv_dup hx hb d_Wa_init_8 rfl ?_
  refine ob_cI (nA := 0) (As := []) (rest := [.ref (b + (ob_n t)), .ref (b + v0)]) hz Cx hl.1 hP hS (fun o ho => c_Pe_init (ob_n t) ho) mi_Pe_init w_m_Wa_9 rfl (by decide +kernel) ⟨rfl, rfl⟩ ⟨by decide, by decide⟩ ⟨by omega, by omega⟩ (Nat.le_of_ble_eq_true rfl) rfl d_Wa_init_9 h (fun t9 H locs h hP hS hz => ?_)
  refine ob_putFR (k := 0) hz hin rfl Cx hP hS ck_5 rfl rfl rfl rfl w_f_Wa_10 d_Wa_init_12 h (fun t12 H locs h hP hS hz => ?_)
  exact ob_vretC hz hz0 (by omega) (by omega) Cx hP hS d_Wa_init_15 h
set_option maxHeartbeats 4000000 in
set_option maxRecDepth 100000 in
theorem c_Me_init {l : Launch} {b : Nat} {D : va_G} {cA : Nat → ClassId} {adK adV : Nat → Nat} (v0 : Nat) {t : ob_S} {out : ob_S} (h : X_Me_init v0 t = some out) : Met l y_Me_init (Cond.code y_Me_init cb_Me_init 2 none :: ob_T) { frames := 2, cells := 11, slots := 340, locals := 41 } (ob_PreC b D cA adK adV [.ref (b + v0)] t) (ob_QC b D cA (ob_n t + 11) out) 11 340 (ob_A b) := by
  refine ob_metC (by decide) rfl (Nat.le_of_ble_eq_true rfl) ?_
  intro p e R s m args below meth c ls Cx hin hR hz hP hS hl
  have hl : lv_has ls 2 [(0, .ref (b + v0))] := hl
  have hx := Cx.1.1
  have hb := Cx.1.2.1
  have hz0 : s.heap.size = b + ob_n t := hz
  obtain ⟨hRc, hRs⟩ := hR
  unfold X_Me_init at h
  obtain ⟨H, hH⟩ : ∃ H, H = s.heap := ⟨_, rfl⟩
  obtain ⟨locs, hL⟩ : ∃ locs : List Loc, locs = [] := ⟨_, rfl⟩
  rw [← hH] at hP
  have hS : va_S (ob_A b) s.heap H locs := by rw [hH, hL]; exact hS
  suffices hW : W p l e R s m args below meth c H locs 0 0 (MQ below (ob_QC b D cA (ob_n t + 11) out) args s 11 340 (ob_A b)) (F0 m 0 ls []) by rw [hH, hL] at hW; exact hW
  refine lv_aload_n hx hb d_Me_init_0 rfl (lv_at hl 0 rfl) ?_
  refine ob_oinit Cx hl.1 (by decide) (Nat.le_of_ble_eq_true rfl) w_m_Me_3 d_Me_init_1 ?_
  refine lv_aload_n hx hb d_Me_init_4 rfl (lv_at hl 0 rfl) ?_
  refine lv_iconst (v := 4) hx hb d_Me_init_5 (by decide) ?_
  refine ob_newR (kd := 14) (mx := 4) Cx hP hS hz (by decide) (by decide) rfl w_k_Me_9 Cx.2.1.2.2.2.2.2.1 (by omega) (by omega) d_Me_init_6 h (fun t6 H h _ hP hS hz => ?_)
  refine ob_putFR (k := 0) hz hin rfl Cx hP hS ck_2 rfl rfl rfl rfl w_f_Me_11 d_Me_init_9 h (fun t9 H locs h hP hS hz => ?_)
  refine lv_aload_n hx hb d_Me_init_12 rfl (lv_at hl 0 rfl) ?_
  refine lv_iconst (v := 4) hx hb d_Me_init_13 (by decide) ?_
  refine ob_newI (mx := 4) Cx hP hS hz (by decide) (by omega) (by omega) d_Me_init_14 h (fun t14 H h _ hP hS hz => ?_)
  refine ob_putFR (k := 1) hz hin rfl Cx hP hS ck_2 rfl rfl rfl rfl w_f_Me_17 d_Me_init_16 h (fun t16 H locs h hP hS hz => ?_)
  refine lv_aload_n hx hb d_Me_init_19 rfl (lv_at hl 0 rfl) ?_
  refine lv_iconst (v := 4) hx hb d_Me_init_20 (by decide) ?_
  refine ob_newI (mx := 4) Cx hP hS hz (by decide) (by omega) (by omega) d_Me_init_21 h (fun t21 H h _ hP hS hz => ?_)
  refine ob_putFR (k := 2) hz hin rfl Cx hP hS ck_2 rfl rfl rfl rfl w_f_Me_21 d_Me_init_23 h (fun t23 H locs h hP hS hz => ?_)
  refine lv_iconst (v := 0) hx hb d_Me_init_26 (by decide) ?_
  refine lv_istore_n (lv' := [(1, .int (0 : Int32)), (0, .ref (b + v0))]) hx hb d_Me_init_27 rfl hl (by decide) rfl (fun ls hl => ?_)
  refine lv_iload_n hx hb d_Me_init_28 rfl (lv_at hl 0 rfl) ?_
  refine lv_iconst (v := 4) hx hb d_Me_init_29 (by decide) ?_
  refine lv_icmp_ge (tgt := 54) hx hb d_Me_init_30 (by decide) (fun hq => absurd hq (by decide)) (fun hq => ?_)
  refine lv_aload_n hx hb d_Me_init_33 rfl (lv_at hl 1 rfl) ?_
  refine ob_getR (k := 0) Cx hP ck_2 rfl w_f_Me_11 d_Me_init_34 h (fun n34 h => ?_)
  refine lv_iload_n hx hb d_Me_init_37 rfl (lv_at hl 0 rfl) ?_
  refine ob_newO Cx hP hS ck_0 hz w_k_Me_9 w_q_0 w_i_By nf_0 (by omega) (by omega) d_Me_init_38 (fun H hP hS hz => ?_)
  obtain ⟨t38, et38, h⟩ := ob_b_some h
  rw [Option.some.inj et38] at hP hz
  refine lv_dup hx hb d_Me_init_41 rfl ?_
  refine lv_bipush (v := 48) hx hb d_Me_init_42 (by decide) ?_
  refine ob_cI (nA := 1) (As := [.int (48 : Int32)]) (rest := [.ref (b + (ob_n t23)), .int (0 : Int32), .ref (b + n34)]) hz Cx hl.1 hP hS (fun o ho => c_By_init (ob_n t23) (48 : Int32) ho) mi_By_init w_m_Me_24 rfl (by decide +kernel) ⟨rfl, rfl⟩ ⟨by decide, by decide⟩ ⟨by omega, by omega⟩ (Nat.le_of_ble_eq_true rfl) rfl d_Me_init_44 h (fun t44 H locs h hP hS hz => ?_)
  refine ob_astRz (kd := 14) hz Cx hP hS (by decide) (by decide) (rfl : ob_cl[0]? = _) rfl d_Me_init_47 h (fun t47 H locs h hP hS hz => ?_)
  refine lv_iinc (v := (1 : Int32)) (lv' := [(1, .int (1 : Int32)), (0, .ref (b + v0))]) hx hb d_Me_init_48 hl (k := 0) rfl (by decide) (by decide) rfl (fun ls hl => ?_)
  refine lv_goto (tgt := 28) hx hb d_Me_init_51 (by decide) ?_
  refine lv_iload_n hx hb d_Me_init_28 rfl (lv_at hl 0 rfl) ?_
  refine lv_iconst (v := 4) hx hb d_Me_init_29 (by decide) ?_
  refine lv_icmp_ge (tgt := 54) hx hb d_Me_init_30 (by decide) (fun hq => absurd hq (by decide)) (fun hq => ?_)
  refine lv_aload_n hx hb d_Me_init_33 rfl (lv_at hl 1 rfl) ?_
  refine ob_getR (k := 0) Cx hP ck_2 rfl w_f_Me_11 d_Me_init_34 h (fun n34_1 h => ?_)
  refine lv_iload_n hx hb d_Me_init_37 rfl (lv_at hl 0 rfl) ?_
  refine ob_newO Cx hP hS ck_0 hz w_k_Me_9 w_q_0 w_i_By nf_0 (by omega) (by omega) d_Me_init_38 (fun H hP hS hz => ?_)
  obtain ⟨t38_2, et38_2, h⟩ := ob_b_some h
  rw [Option.some.inj et38_2] at hP hz
  refine lv_dup hx hb d_Me_init_41 rfl ?_
  refine lv_bipush (v := 48) hx hb d_Me_init_42 (by decide) ?_
  refine ob_cI (nA := 1) (As := [.int (48 : Int32)]) (rest := [.ref (b + (ob_n t47)), .int (1 : Int32), .ref (b + n34_1)]) hz Cx hl.1 hP hS (fun o ho => c_By_init (ob_n t47) (48 : Int32) ho) mi_By_init w_m_Me_24 rfl (by decide +kernel) ⟨rfl, rfl⟩ ⟨by decide, by decide⟩ ⟨by omega, by omega⟩ (Nat.le_of_ble_eq_true rfl) rfl d_Me_init_44 h (fun t44_3 H locs h hP hS hz => ?_)
  refine ob_astRz (kd := 14) hz Cx hP hS (by decide) (by decide) (rfl : ob_cl[0]? = _) rfl d_Me_init_47 h (fun t47_4 H locs h hP hS hz => ?_)
  refine lv_iinc (v := (2 : Int32)) (lv' := [(1, .int (2 : Int32)), (0, .ref (b + v0))]) hx hb d_Me_init_48 hl (k := 0) rfl (by decide) (by decide) rfl (fun ls hl => ?_)
  refine lv_goto (tgt := 28) hx hb d_Me_init_51 (by decide) ?_
  refine lv_iload_n hx hb d_Me_init_28 rfl (lv_at hl 0 rfl) ?_
  refine lv_iconst (v := 4) hx hb d_Me_init_29 (by decide) ?_
  refine lv_icmp_ge (tgt := 54) hx hb d_Me_init_30 (by decide) (fun hq => absurd hq (by decide)) (fun hq => ?_)
  refine lv_aload_n hx hb d_Me_init_33 rfl (lv_at hl 1 rfl) ?_
  refine ob_getR (k := 0) Cx hP ck_2 rfl w_f_Me_11 d_Me_init_34 h (fun n34_5 h => ?_)
  refine lv_iload_n hx hb d_Me_init_37 rfl (lv_at hl 0 rfl) ?_
  refine ob_newO Cx hP hS ck_0 hz w_k_Me_9 w_q_0 w_i_By nf_0 (by omega) (by omega) d_Me_init_38 (fun H hP hS hz => ?_)
  obtain ⟨t38_6, et38_6, h⟩ := ob_b_some h
  rw [Option.some.inj et38_6] at hP hz
  refine lv_dup hx hb d_Me_init_41 rfl ?_
  refine lv_bipush (v := 48) hx hb d_Me_init_42 (by decide) ?_
  refine ob_cI (nA := 1) (As := [.int (48 : Int32)]) (rest := [.ref (b + (ob_n t47_4)), .int (2 : Int32), .ref (b + n34_5)]) hz Cx hl.1 hP hS (fun o ho => c_By_init (ob_n t47_4) (48 : Int32) ho) mi_By_init w_m_Me_24 rfl (by decide +kernel) ⟨rfl, rfl⟩ ⟨by decide, by decide⟩ ⟨by omega, by omega⟩ (Nat.le_of_ble_eq_true rfl) rfl d_Me_init_44 h (fun t44_7 H locs h hP hS hz => ?_)
  refine ob_astRz (kd := 14) hz Cx hP hS (by decide) (by decide) (rfl : ob_cl[0]? = _) rfl d_Me_init_47 h (fun t47_8 H locs h hP hS hz => ?_)
  refine lv_iinc (v := (3 : Int32)) (lv' := [(1, .int (3 : Int32)), (0, .ref (b + v0))]) hx hb d_Me_init_48 hl (k := 0) rfl (by decide) (by decide) rfl (fun ls hl => ?_)
  refine lv_goto (tgt := 28) hx hb d_Me_init_51 (by decide) ?_
  refine lv_iload_n hx hb d_Me_init_28 rfl (lv_at hl 0 rfl) ?_
  refine lv_iconst (v := 4) hx hb d_Me_init_29 (by decide) ?_
  refine lv_icmp_ge (tgt := 54) hx hb d_Me_init_30 (by decide) (fun hq => absurd hq (by decide)) (fun hq => ?_)
  refine lv_aload_n hx hb d_Me_init_33 rfl (lv_at hl 1 rfl) ?_
  refine ob_getR (k := 0) Cx hP ck_2 rfl w_f_Me_11 d_Me_init_34 h (fun n34_9 h => ?_)
  refine lv_iload_n hx hb d_Me_init_37 rfl (lv_at hl 0 rfl) ?_
  refine ob_newO Cx hP hS ck_0 hz w_k_Me_9 w_q_0 w_i_By nf_0 (by omega) (by omega) d_Me_init_38 (fun H hP hS hz => ?_)
  obtain ⟨t38_10, et38_10, h⟩ := ob_b_some h
  rw [Option.some.inj et38_10] at hP hz
  refine lv_dup hx hb d_Me_init_41 rfl ?_
  refine lv_bipush (v := 48) hx hb d_Me_init_42 (by decide) ?_
  refine ob_cI (nA := 1) (As := [.int (48 : Int32)]) (rest := [.ref (b + (ob_n t47_8)), .int (3 : Int32), .ref (b + n34_9)]) hz Cx hl.1 hP hS (fun o ho => c_By_init (ob_n t47_8) (48 : Int32) ho) mi_By_init w_m_Me_24 rfl (by decide +kernel) ⟨rfl, rfl⟩ ⟨by decide, by decide⟩ ⟨by omega, by omega⟩ (Nat.le_of_ble_eq_true rfl) rfl d_Me_init_44 h (fun t44_11 H locs h hP hS hz => ?_)
  refine ob_astRz (kd := 14) hz Cx hP hS (by decide) (by decide) (rfl : ob_cl[0]? = _) rfl d_Me_init_47 h (fun t47_12 H locs h hP hS hz => ?_)
  refine lv_iinc (v := (4 : Int32)) (lv' := [(1, .int (4 : Int32)), (0, .ref (b + v0))]) hx hb d_Me_init_48 hl (k := 0) rfl (by decide) (by decide) rfl (fun ls hl => ?_)
  refine lv_goto (tgt := 28) hx hb d_Me_init_51 (by decide) ?_
  refine lv_iload_n hx hb d_Me_init_28 rfl (lv_at hl 0 rfl) ?_
  refine lv_iconst (v := 4) hx hb d_Me_init_29 (by decide) ?_
  refine lv_icmp_ge (tgt := 54) hx hb d_Me_init_30 (by decide) (fun hq => ?_) (fun hq => absurd (by decide) hq)
  refine lv_aload_n hx hb d_Me_init_54 rfl (lv_at hl 1 rfl) ?_
  refine lv_iconst (v := 0) hx hb d_Me_init_55 (by decide) ?_
  refine ob_putIz (k := 3) hz Cx hP hS ck_2 rfl rfl rfl w_f_Me_27 d_Me_init_56 h (fun t56 H locs h hP hS hz => ?_)
  exact ob_vretC hz hz0 (by omega) (by omega) Cx hP hS d_Me_init_59 h
set_option maxHeartbeats 4000000 in
set_option maxRecDepth 100000 in
theorem c_Se_init {l : Launch} {b : Nat} {D : va_G} {cA : Nat → ClassId} {adK adV : Nat → Nat} (v0 : Nat) (v1 : Nat) {t : ob_S} {out : ob_S} (h : X_Se_init v0 v1 t = some out) : Met l y_Se_init (Cond.code y_Se_init cb_Se_init 3 none :: ob_T) { frames := 4, cells := 42, slots := 1280, locals := 81 } (ob_PreC b D cA adK adV [.ref (b + v0), .ref (b + v1)] t) (ob_QC b D cA (ob_n t + 42) out) 42 1280 (ob_A b) := by
  refine ob_metC (by decide) rfl (Nat.le_of_ble_eq_true rfl) ?_
  intro p e R s m args below meth c ls Cx hin hR hz hP hS hl
  have hl : lv_has ls 3 [(0, .ref (b + v0)), (1, .ref (b + v1))] := hl
  have hx := Cx.1.1
  have hb := Cx.1.2.1
  have hz0 : s.heap.size = b + ob_n t := hz
  obtain ⟨hRc, hRs⟩ := hR
  unfold X_Se_init at h
  obtain ⟨H, hH⟩ : ∃ H, H = s.heap := ⟨_, rfl⟩
  obtain ⟨locs, hL⟩ : ∃ locs : List Loc, locs = [] := ⟨_, rfl⟩
  rw [← hH] at hP
  have hS : va_S (ob_A b) s.heap H locs := by rw [hH, hL]; exact hS
  suffices hW : W p l e R s m args below meth c H locs 0 0 (MQ below (ob_QC b D cA (ob_n t + 42) out) args s 42 1280 (ob_A b)) (F0 m 0 ls []) by rw [hH, hL] at hW; exact hW
  refine lv_aload_n hx hb d_Se_init_0 rfl (lv_at hl 0 rfl) ?_
  refine ob_oinit Cx hl.1 (by decide) (Nat.le_of_ble_eq_true rfl) w_m_Se_3 d_Se_init_1 ?_
  refine lv_aload_n hx hb d_Se_init_4 rfl (lv_at hl 0 rfl) ?_
  refine lv_iconst (v := 4) hx hb d_Se_init_5 (by decide) ?_
  refine ob_newR (kd := 14) (mx := 4) Cx hP hS hz (by decide) (by decide) rfl w_k_Se_9 Cx.2.1.2.2.2.2.2.1 (by omega) (by omega) d_Se_init_6 h (fun t6 H h _ hP hS hz => ?_)
  refine ob_putFR (k := 0) hz hin rfl Cx hP hS ck_9 rfl rfl rfl rfl w_f_Se_11 d_Se_init_9 h (fun t9 H locs h hP hS hz => ?_)
  refine lv_aload_n hx hb d_Se_init_12 rfl (lv_at hl 0 rfl) ?_
  refine lv_iconst (v := 4) hx hb d_Se_init_13 (by decide) ?_
  refine ob_newR (kd := 14) (mx := 4) Cx hP hS hz (by decide) (by decide) rfl w_k_Se_9 Cx.2.1.2.2.2.2.2.1 (by omega) (by omega) d_Se_init_14 h (fun t14 H h _ hP hS hz => ?_)
  refine ob_putFR (k := 4) hz hin rfl Cx hP hS ck_9 rfl rfl rfl rfl w_f_Se_17 d_Se_init_17 h (fun t17 H locs h hP hS hz => ?_)
  refine lv_iconst (v := 0) hx hb d_Se_init_20 (by decide) ?_
  refine lv_istore_n (lv' := [(2, .int (0 : Int32)), (0, .ref (b + v0)), (1, .ref (b + v1))]) hx hb d_Se_init_21 rfl hl (by decide) rfl (fun ls hl => ?_)
  refine lv_iload_n hx hb d_Se_init_22 rfl (lv_at hl 0 rfl) ?_
  refine lv_iconst (v := 4) hx hb d_Se_init_23 (by decide) ?_
  refine lv_icmp_ge (tgt := 63) hx hb d_Se_init_24 (by decide) (fun hq => absurd hq (by decide)) (fun hq => ?_)
  refine lv_aload_n hx hb d_Se_init_27 rfl (lv_at hl 1 rfl) ?_
  refine ob_getR (k := 0) Cx hP ck_9 rfl w_f_Se_11 d_Se_init_28 h (fun n28 h => ?_)
  refine lv_iload_n hx hb d_Se_init_31 rfl (lv_at hl 0 rfl) ?_
  refine ob_newO Cx hP hS ck_0 hz w_k_Se_9 w_q_0 w_i_By nf_0 (by omega) (by omega) d_Se_init_32 (fun H hP hS hz => ?_)
  obtain ⟨t32, et32, h⟩ := ob_b_some h
  rw [Option.some.inj et32] at hP hz
  refine lv_dup hx hb d_Se_init_35 rfl ?_
  refine lv_bipush (v := 64) hx hb d_Se_init_36 (by decide) ?_
  refine ob_cI (nA := 1) (As := [.int (64 : Int32)]) (rest := [.ref (b + (ob_n t17)), .int (0 : Int32), .ref (b + n28)]) hz Cx hl.1 hP hS (fun o ho => c_By_init (ob_n t17) (64 : Int32) ho) mi_By_init w_m_Se_20 rfl (by decide +kernel) ⟨rfl, rfl⟩ ⟨by decide, by decide⟩ ⟨by omega, by omega⟩ (Nat.le_of_ble_eq_true rfl) rfl d_Se_init_38 h (fun t38 H locs h hP hS hz => ?_)
  refine ob_astRz (kd := 14) hz Cx hP hS (by decide) (by decide) (rfl : ob_cl[0]? = _) rfl d_Se_init_41 h (fun t41 H locs h hP hS hz => ?_)
  refine lv_aload_n hx hb d_Se_init_42 rfl (lv_at hl 1 rfl) ?_
  refine ob_getR (k := 4) Cx hP ck_9 rfl w_f_Se_17 d_Se_init_43 h (fun n43 h => ?_)
  refine lv_iload_n hx hb d_Se_init_46 rfl (lv_at hl 0 rfl) ?_
  refine ob_newO Cx hP hS ck_0 hz w_k_Se_9 w_q_0 w_i_By nf_0 (by omega) (by omega) d_Se_init_47 (fun H hP hS hz => ?_)
  obtain ⟨t47, et47, h⟩ := ob_b_some h
  rw [Option.some.inj et47] at hP hz
  refine lv_dup hx hb d_Se_init_50 rfl ?_
  refine lv_bipush (v := 64) hx hb d_Se_init_51 (by decide) ?_
  refine ob_cI (nA := 1) (As := [.int (64 : Int32)]) (rest := [.ref (b + (ob_n t41)), .int (0 : Int32), .ref (b + n43)]) hz Cx hl.1 hP hS (fun o ho => c_By_init (ob_n t41) (64 : Int32) ho) mi_By_init w_m_Se_20 rfl (by decide +kernel) ⟨rfl, rfl⟩ ⟨by decide, by decide⟩ ⟨by omega, by omega⟩ (Nat.le_of_ble_eq_true rfl) rfl d_Se_init_53 h (fun t53 H locs h hP hS hz => ?_)
  refine ob_astRz (kd := 14) hz Cx hP hS (by decide) (by decide) (rfl : ob_cl[0]? = _) rfl d_Se_init_56 h (fun t56 H locs h hP hS hz => ?_)
  refine lv_iinc (v := (1 : Int32)) (lv' := [(2, .int (1 : Int32)), (0, .ref (b + v0)), (1, .ref (b + v1))]) hx hb d_Se_init_57 hl (k := 0) rfl (by decide) (by decide) rfl (fun ls hl => ?_)
  refine lv_goto (tgt := 22) hx hb d_Se_init_60 (by decide) ?_
  refine lv_iload_n hx hb d_Se_init_22 rfl (lv_at hl 0 rfl) ?_
  refine lv_iconst (v := 4) hx hb d_Se_init_23 (by decide) ?_
  refine lv_icmp_ge (tgt := 63) hx hb d_Se_init_24 (by decide) (fun hq => absurd hq (by decide)) (fun hq => ?_)
  refine lv_aload_n hx hb d_Se_init_27 rfl (lv_at hl 1 rfl) ?_
  refine ob_getR (k := 0) Cx hP ck_9 rfl w_f_Se_11 d_Se_init_28 h (fun n28_1 h => ?_)
  refine lv_iload_n hx hb d_Se_init_31 rfl (lv_at hl 0 rfl) ?_
  refine ob_newO Cx hP hS ck_0 hz w_k_Se_9 w_q_0 w_i_By nf_0 (by omega) (by omega) d_Se_init_32 (fun H hP hS hz => ?_)
  obtain ⟨t32_2, et32_2, h⟩ := ob_b_some h
  rw [Option.some.inj et32_2] at hP hz
  refine lv_dup hx hb d_Se_init_35 rfl ?_
  refine lv_bipush (v := 64) hx hb d_Se_init_36 (by decide) ?_
  refine ob_cI (nA := 1) (As := [.int (64 : Int32)]) (rest := [.ref (b + (ob_n t56)), .int (1 : Int32), .ref (b + n28_1)]) hz Cx hl.1 hP hS (fun o ho => c_By_init (ob_n t56) (64 : Int32) ho) mi_By_init w_m_Se_20 rfl (by decide +kernel) ⟨rfl, rfl⟩ ⟨by decide, by decide⟩ ⟨by omega, by omega⟩ (Nat.le_of_ble_eq_true rfl) rfl d_Se_init_38 h (fun t38_3 H locs h hP hS hz => ?_)
  refine ob_astRz (kd := 14) hz Cx hP hS (by decide) (by decide) (rfl : ob_cl[0]? = _) rfl d_Se_init_41 h (fun t41_4 H locs h hP hS hz => ?_)
  refine lv_aload_n hx hb d_Se_init_42 rfl (lv_at hl 1 rfl) ?_
  refine ob_getR (k := 4) Cx hP ck_9 rfl w_f_Se_17 d_Se_init_43 h (fun n43_5 h => ?_)
  refine lv_iload_n hx hb d_Se_init_46 rfl (lv_at hl 0 rfl) ?_
  refine ob_newO Cx hP hS ck_0 hz w_k_Se_9 w_q_0 w_i_By nf_0 (by omega) (by omega) d_Se_init_47 (fun H hP hS hz => ?_)
  obtain ⟨t47_6, et47_6, h⟩ := ob_b_some h
  rw [Option.some.inj et47_6] at hP hz
  refine lv_dup hx hb d_Se_init_50 rfl ?_
  refine lv_bipush (v := 64) hx hb d_Se_init_51 (by decide) ?_
  refine ob_cI (nA := 1) (As := [.int (64 : Int32)]) (rest := [.ref (b + (ob_n t41_4)), .int (1 : Int32), .ref (b + n43_5)]) hz Cx hl.1 hP hS (fun o ho => c_By_init (ob_n t41_4) (64 : Int32) ho) mi_By_init w_m_Se_20 rfl (by decide +kernel) ⟨rfl, rfl⟩ ⟨by decide, by decide⟩ ⟨by omega, by omega⟩ (Nat.le_of_ble_eq_true rfl) rfl d_Se_init_53 h (fun t53_7 H locs h hP hS hz => ?_)
  refine ob_astRz (kd := 14) hz Cx hP hS (by decide) (by decide) (rfl : ob_cl[0]? = _) rfl d_Se_init_56 h (fun t56_8 H locs h hP hS hz => ?_)
  refine lv_iinc (v := (2 : Int32)) (lv' := [(2, .int (2 : Int32)), (0, .ref (b + v0)), (1, .ref (b + v1))]) hx hb d_Se_init_57 hl (k := 0) rfl (by decide) (by decide) rfl (fun ls hl => ?_)
  refine lv_goto (tgt := 22) hx hb d_Se_init_60 (by decide) ?_
  refine lv_iload_n hx hb d_Se_init_22 rfl (lv_at hl 0 rfl) ?_
  refine lv_iconst (v := 4) hx hb d_Se_init_23 (by decide) ?_
  refine lv_icmp_ge (tgt := 63) hx hb d_Se_init_24 (by decide) (fun hq => absurd hq (by decide)) (fun hq => ?_)
  refine lv_aload_n hx hb d_Se_init_27 rfl (lv_at hl 1 rfl) ?_
  refine ob_getR (k := 0) Cx hP ck_9 rfl w_f_Se_11 d_Se_init_28 h (fun n28_9 h => ?_)
  refine lv_iload_n hx hb d_Se_init_31 rfl (lv_at hl 0 rfl) ?_
  refine ob_newO Cx hP hS ck_0 hz w_k_Se_9 w_q_0 w_i_By nf_0 (by omega) (by omega) d_Se_init_32 (fun H hP hS hz => ?_)
  obtain ⟨t32_10, et32_10, h⟩ := ob_b_some h
  rw [Option.some.inj et32_10] at hP hz
  refine lv_dup hx hb d_Se_init_35 rfl ?_
  refine lv_bipush (v := 64) hx hb d_Se_init_36 (by decide) ?_
  refine ob_cI (nA := 1) (As := [.int (64 : Int32)]) (rest := [.ref (b + (ob_n t56_8)), .int (2 : Int32), .ref (b + n28_9)]) hz Cx hl.1 hP hS (fun o ho => c_By_init (ob_n t56_8) (64 : Int32) ho) mi_By_init w_m_Se_20 rfl (by decide +kernel) ⟨rfl, rfl⟩ ⟨by decide, by decide⟩ ⟨by omega, by omega⟩ (Nat.le_of_ble_eq_true rfl) rfl d_Se_init_38 h (fun t38_11 H locs h hP hS hz => ?_)
  refine ob_astRz (kd := 14) hz Cx hP hS (by decide) (by decide) (rfl : ob_cl[0]? = _) rfl d_Se_init_41 h (fun t41_12 H locs h hP hS hz => ?_)
  refine lv_aload_n hx hb d_Se_init_42 rfl (lv_at hl 1 rfl) ?_
  refine ob_getR (k := 4) Cx hP ck_9 rfl w_f_Se_17 d_Se_init_43 h (fun n43_13 h => ?_)
  refine lv_iload_n hx hb d_Se_init_46 rfl (lv_at hl 0 rfl) ?_
  refine ob_newO Cx hP hS ck_0 hz w_k_Se_9 w_q_0 w_i_By nf_0 (by omega) (by omega) d_Se_init_47 (fun H hP hS hz => ?_)
  obtain ⟨t47_14, et47_14, h⟩ := ob_b_some h
  rw [Option.some.inj et47_14] at hP hz
  refine lv_dup hx hb d_Se_init_50 rfl ?_
  refine lv_bipush (v := 64) hx hb d_Se_init_51 (by decide) ?_
  refine ob_cI (nA := 1) (As := [.int (64 : Int32)]) (rest := [.ref (b + (ob_n t41_12)), .int (2 : Int32), .ref (b + n43_13)]) hz Cx hl.1 hP hS (fun o ho => c_By_init (ob_n t41_12) (64 : Int32) ho) mi_By_init w_m_Se_20 rfl (by decide +kernel) ⟨rfl, rfl⟩ ⟨by decide, by decide⟩ ⟨by omega, by omega⟩ (Nat.le_of_ble_eq_true rfl) rfl d_Se_init_53 h (fun t53_15 H locs h hP hS hz => ?_)
  refine ob_astRz (kd := 14) hz Cx hP hS (by decide) (by decide) (rfl : ob_cl[0]? = _) rfl d_Se_init_56 h (fun t56_16 H locs h hP hS hz => ?_)
  refine lv_iinc (v := (3 : Int32)) (lv' := [(2, .int (3 : Int32)), (0, .ref (b + v0)), (1, .ref (b + v1))]) hx hb d_Se_init_57 hl (k := 0) rfl (by decide) (by decide) rfl (fun ls hl => ?_)
  refine lv_goto (tgt := 22) hx hb d_Se_init_60 (by decide) ?_
  refine lv_iload_n hx hb d_Se_init_22 rfl (lv_at hl 0 rfl) ?_
  refine lv_iconst (v := 4) hx hb d_Se_init_23 (by decide) ?_
  refine lv_icmp_ge (tgt := 63) hx hb d_Se_init_24 (by decide) (fun hq => absurd hq (by decide)) (fun hq => ?_)
  refine lv_aload_n hx hb d_Se_init_27 rfl (lv_at hl 1 rfl) ?_
  refine ob_getR (k := 0) Cx hP ck_9 rfl w_f_Se_11 d_Se_init_28 h (fun n28_17 h => ?_)
  refine lv_iload_n hx hb d_Se_init_31 rfl (lv_at hl 0 rfl) ?_
  refine ob_newO Cx hP hS ck_0 hz w_k_Se_9 w_q_0 w_i_By nf_0 (by omega) (by omega) d_Se_init_32 (fun H hP hS hz => ?_)
  obtain ⟨t32_18, et32_18, h⟩ := ob_b_some h
  rw [Option.some.inj et32_18] at hP hz
  refine lv_dup hx hb d_Se_init_35 rfl ?_
  refine lv_bipush (v := 64) hx hb d_Se_init_36 (by decide) ?_
  refine ob_cI (nA := 1) (As := [.int (64 : Int32)]) (rest := [.ref (b + (ob_n t56_16)), .int (3 : Int32), .ref (b + n28_17)]) hz Cx hl.1 hP hS (fun o ho => c_By_init (ob_n t56_16) (64 : Int32) ho) mi_By_init w_m_Se_20 rfl (by decide +kernel) ⟨rfl, rfl⟩ ⟨by decide, by decide⟩ ⟨by omega, by omega⟩ (Nat.le_of_ble_eq_true rfl) rfl d_Se_init_38 h (fun t38_19 H locs h hP hS hz => ?_)
  refine ob_astRz (kd := 14) hz Cx hP hS (by decide) (by decide) (rfl : ob_cl[0]? = _) rfl d_Se_init_41 h (fun t41_20 H locs h hP hS hz => ?_)
  refine lv_aload_n hx hb d_Se_init_42 rfl (lv_at hl 1 rfl) ?_
  refine ob_getR (k := 4) Cx hP ck_9 rfl w_f_Se_17 d_Se_init_43 h (fun n43_21 h => ?_)
  refine lv_iload_n hx hb d_Se_init_46 rfl (lv_at hl 0 rfl) ?_
  refine ob_newO Cx hP hS ck_0 hz w_k_Se_9 w_q_0 w_i_By nf_0 (by omega) (by omega) d_Se_init_47 (fun H hP hS hz => ?_)
  obtain ⟨t47_22, et47_22, h⟩ := ob_b_some h
  rw [Option.some.inj et47_22] at hP hz
  refine lv_dup hx hb d_Se_init_50 rfl ?_
  refine lv_bipush (v := 64) hx hb d_Se_init_51 (by decide) ?_
  refine ob_cI (nA := 1) (As := [.int (64 : Int32)]) (rest := [.ref (b + (ob_n t41_20)), .int (3 : Int32), .ref (b + n43_21)]) hz Cx hl.1 hP hS (fun o ho => c_By_init (ob_n t41_20) (64 : Int32) ho) mi_By_init w_m_Se_20 rfl (by decide +kernel) ⟨rfl, rfl⟩ ⟨by decide, by decide⟩ ⟨by omega, by omega⟩ (Nat.le_of_ble_eq_true rfl) rfl d_Se_init_53 h (fun t53_23 H locs h hP hS hz => ?_)
  refine ob_astRz (kd := 14) hz Cx hP hS (by decide) (by decide) (rfl : ob_cl[0]? = _) rfl d_Se_init_56 h (fun t56_24 H locs h hP hS hz => ?_)
  refine lv_iinc (v := (4 : Int32)) (lv' := [(2, .int (4 : Int32)), (0, .ref (b + v0)), (1, .ref (b + v1))]) hx hb d_Se_init_57 hl (k := 0) rfl (by decide) (by decide) rfl (fun ls hl => ?_)
  refine lv_goto (tgt := 22) hx hb d_Se_init_60 (by decide) ?_
  refine lv_iload_n hx hb d_Se_init_22 rfl (lv_at hl 0 rfl) ?_
  refine lv_iconst (v := 4) hx hb d_Se_init_23 (by decide) ?_
  refine lv_icmp_ge (tgt := 63) hx hb d_Se_init_24 (by decide) (fun hq => ?_) (fun hq => absurd (by decide) hq)
  refine lv_aload_n hx hb d_Se_init_63 rfl (lv_at hl 1 rfl) ?_
  refine lv_iconst (v := 2) hx hb d_Se_init_64 (by decide) ?_
  refine ob_newR (kd := 16) (mx := 2) Cx hP hS hz (by decide) (by decide) rfl w_k_Se_23 Cx.2.1.2.2.2.2.2.2.2.1 (by omega) (by omega) d_Se_init_65 h (fun t65 H h _ hP hS hz => ?_)
  refine ob_putFR (k := 5) hz hin rfl Cx hP hS ck_9 rfl rfl rfl rfl w_f_Se_25 d_Se_init_68 h (fun t68 H locs h hP hS hz => ?_)
  refine lv_iconst (v := 0) hx hb d_Se_init_71 (by decide) ?_
  refine lv_istore_n (lv' := [(2, .int (0 : Int32)), (0, .ref (b + v0)), (1, .ref (b + v1))]) hx hb d_Se_init_72 rfl hl (by decide) rfl (fun ls hl => ?_)
  refine lv_iload_n hx hb d_Se_init_73 rfl (lv_at hl 0 rfl) ?_
  refine lv_iconst (v := 2) hx hb d_Se_init_74 (by decide) ?_
  refine lv_icmp_ge (tgt := 97) hx hb d_Se_init_75 (by decide) (fun hq => absurd hq (by decide)) (fun hq => ?_)
  refine lv_aload_n hx hb d_Se_init_78 rfl (lv_at hl 1 rfl) ?_
  refine ob_getR (k := 5) Cx hP ck_9 rfl w_f_Se_25 d_Se_init_79 h (fun n79 h => ?_)
  refine lv_iload_n hx hb d_Se_init_82 rfl (lv_at hl 0 rfl) ?_
  refine ob_newO Cx hP hS ck_5 hz w_k_Se_23 w_q_5 w_i_Wa nf_5 (by omega) (by omega) d_Se_init_83 (fun H hP hS hz => ?_)
  obtain ⟨t83, et83, h⟩ := ob_b_some h
  rw [Option.some.inj et83] at hP hz
  refine lv_dup hx hb d_Se_init_86 rfl ?_
  refine ob_cI (nA := 0) (As := []) (rest := [.ref (b + (ob_n t68)), .int (0 : Int32), .ref (b + n79)]) hz Cx hl.1 hP hS (fun o ho => c_Wa_init (ob_n t68) ho) mi_Wa_init w_m_Se_29 rfl (by decide +kernel) ⟨rfl, rfl⟩ ⟨by decide, by decide⟩ ⟨by omega, by omega⟩ (Nat.le_of_ble_eq_true rfl) rfl d_Se_init_87 h (fun t87 H locs h hP hS hz => ?_)
  refine ob_astRz (kd := 16) hz Cx hP hS (by decide) (by decide) (rfl : ob_cl[5]? = _) rfl d_Se_init_90 h (fun t90 H locs h hP hS hz => ?_)
  refine lv_iinc (v := (1 : Int32)) (lv' := [(2, .int (1 : Int32)), (0, .ref (b + v0)), (1, .ref (b + v1))]) hx hb d_Se_init_91 hl (k := 0) rfl (by decide) (by decide) rfl (fun ls hl => ?_)
  refine lv_goto (tgt := 73) hx hb d_Se_init_94 (by decide) ?_
  refine lv_iload_n hx hb d_Se_init_73 rfl (lv_at hl 0 rfl) ?_
  refine lv_iconst (v := 2) hx hb d_Se_init_74 (by decide) ?_
  refine lv_icmp_ge (tgt := 97) hx hb d_Se_init_75 (by decide) (fun hq => absurd hq (by decide)) (fun hq => ?_)
  refine lv_aload_n hx hb d_Se_init_78 rfl (lv_at hl 1 rfl) ?_
  refine ob_getR (k := 5) Cx hP ck_9 rfl w_f_Se_25 d_Se_init_79 h (fun n79_25 h => ?_)
  refine lv_iload_n hx hb d_Se_init_82 rfl (lv_at hl 0 rfl) ?_
  refine ob_newO Cx hP hS ck_5 hz w_k_Se_23 w_q_5 w_i_Wa nf_5 (by omega) (by omega) d_Se_init_83 (fun H hP hS hz => ?_)
  obtain ⟨t83_26, et83_26, h⟩ := ob_b_some h
  rw [Option.some.inj et83_26] at hP hz
  refine lv_dup hx hb d_Se_init_86 rfl ?_
  refine ob_cI (nA := 0) (As := []) (rest := [.ref (b + (ob_n t90)), .int (1 : Int32), .ref (b + n79_25)]) hz Cx hl.1 hP hS (fun o ho => c_Wa_init (ob_n t90) ho) mi_Wa_init w_m_Se_29 rfl (by decide +kernel) ⟨rfl, rfl⟩ ⟨by decide, by decide⟩ ⟨by omega, by omega⟩ (Nat.le_of_ble_eq_true rfl) rfl d_Se_init_87 h (fun t87_27 H locs h hP hS hz => ?_)
  refine ob_astRz (kd := 16) hz Cx hP hS (by decide) (by decide) (rfl : ob_cl[5]? = _) rfl d_Se_init_90 h (fun t90_28 H locs h hP hS hz => ?_)
  refine lv_iinc (v := (2 : Int32)) (lv' := [(2, .int (2 : Int32)), (0, .ref (b + v0)), (1, .ref (b + v1))]) hx hb d_Se_init_91 hl (k := 0) rfl (by decide) (by decide) rfl (fun ls hl => ?_)
  refine lv_goto (tgt := 73) hx hb d_Se_init_94 (by decide) ?_
  refine lv_iload_n hx hb d_Se_init_73 rfl (lv_at hl 0 rfl) ?_
  refine lv_iconst (v := 2) hx hb d_Se_init_74 (by decide) ?_
  refine lv_icmp_ge (tgt := 97) hx hb d_Se_init_75 (by decide) (fun hq => ?_) (fun hq => absurd (by decide) hq)
  refine lv_aload_n hx hb d_Se_init_97 rfl (lv_at hl 1 rfl) ?_
  refine ob_newO Cx hP hS ck_2 hz w_k_Se_30 w_q_2 w_i_Me nf_2 (by omega) (by omega) d_Se_init_98 (fun H hP hS hz => ?_)
  obtain ⟨t98, et98, h⟩ := ob_b_some h
  rw [Option.some.inj et98] at hP hz
  refine lv_dup hx hb d_Se_init_101 rfl ?_
  refine ob_cI (nA := 0) (As := []) (rest := [.ref (b + (ob_n t90_28)), .ref (b + v0)]) hz Cx hl.1 hP hS (fun o ho => c_Me_init (ob_n t90_28) ho) mi_Me_init w_m_Se_32 rfl (by decide +kernel) ⟨rfl, rfl⟩ ⟨by decide, by decide⟩ ⟨by omega, by omega⟩ (Nat.le_of_ble_eq_true rfl) rfl d_Se_init_102 h (fun t102 H locs h hP hS hz => ?_)
  refine ob_putFR (k := 6) hz hin rfl Cx hP hS ck_9 rfl rfl rfl rfl w_f_Se_33 d_Se_init_105 h (fun t105 H locs h hP hS hz => ?_)
  refine lv_aload_n hx hb d_Se_init_108 rfl (lv_at hl 1 rfl) ?_
  refine lv_aload_n hx hb d_Se_init_109 rfl (lv_at hl 2 rfl) ?_
  refine ob_putFR (k := 7) hz hin rfl Cx hP hS ck_9 rfl rfl rfl rfl w_f_Se_37 d_Se_init_110 h (fun t110 H locs h hP hS hz => ?_)
  refine lv_aload_n hx hb d_Se_init_113 rfl (lv_at hl 1 rfl) ?_
  refine ob_newO Cx hP hS ck_4 hz w_k_Se_41 w_q_4 w_i_Wr nf_4 (by omega) (by omega) d_Se_init_114 (fun H hP hS hz => ?_)
  obtain ⟨t114, et114, h⟩ := ob_b_some h
  rw [Option.some.inj et114] at hP hz
  refine lv_dup hx hb d_Se_init_117 rfl ?_
  refine ob_cI (nA := 0) (As := []) (rest := [.ref (b + (ob_n t110)), .ref (b + v0)]) hz Cx hl.1 hP hS (fun o ho => c_Wr_init (ob_n t110) ho) mi_Wr_init w_m_Se_43 rfl (by decide +kernel) ⟨rfl, rfl⟩ ⟨by decide, by decide⟩ ⟨by omega, by omega⟩ (Nat.le_of_ble_eq_true rfl) rfl d_Se_init_118 h (fun t118 H locs h hP hS hz => ?_)
  refine ob_putFR (k := 8) hz hin rfl Cx hP hS ck_9 rfl rfl rfl rfl w_f_Se_44 d_Se_init_121 h (fun t121 H locs h hP hS hz => ?_)
  refine lv_aload_n hx hb d_Se_init_124 rfl (lv_at hl 1 rfl) ?_
  refine lv_iconst (v := 1) hx hb d_Se_init_125 (by decide) ?_
  refine ob_putIz (k := 9) hz Cx hP hS ck_9 rfl rfl rfl w_f_Se_48 d_Se_init_126 h (fun t126 H locs h hP hS hz => ?_)
  exact ob_vretC hz hz0 (by omega) (by omega) Cx hP hS d_Se_init_129 h
set_option maxHeartbeats 4000000 in
set_option maxRecDepth 100000 in
theorem c_Ms_init {l : Launch} {b : Nat} {D : va_G} {cA : Nat → ClassId} {adK adV : Nat → Nat} (v0 : Nat) {t : ob_S} {out : ob_S} (h : X_Ms_init v0 t = some out) : Met l y_Ms_init (Cond.code y_Ms_init cb_Ms_init 1 none :: ob_T) { frames := 2, cells := 6, slots := 246, locals := 41 } (ob_PreC b D cA adK adV [.ref (b + v0)] t) (ob_QC b D cA (ob_n t + 6) out) 6 246 (ob_A b) := by
  refine ob_metC (by decide) rfl (Nat.le_of_ble_eq_true rfl) ?_
  intro p e R s m args below meth c ls Cx hin hR hz hP hS hl
  have hl : lv_has ls 1 [(0, .ref (b + v0))] := hl
  have hx := Cx.1.1
  have hb := Cx.1.2.1
  have hz0 : s.heap.size = b + ob_n t := hz
  obtain ⟨hRc, hRs⟩ := hR
  unfold X_Ms_init at h
  obtain ⟨H, hH⟩ : ∃ H, H = s.heap := ⟨_, rfl⟩
  obtain ⟨locs, hL⟩ : ∃ locs : List Loc, locs = [] := ⟨_, rfl⟩
  rw [← hH] at hP
  have hS : va_S (ob_A b) s.heap H locs := by rw [hH, hL]; exact hS
  suffices hW : W p l e R s m args below meth c H locs 0 0 (MQ below (ob_QC b D cA (ob_n t + 6) out) args s 6 246 (ob_A b)) (F0 m 0 ls []) by rw [hH, hL] at hW; exact hW
  refine lv_aload_n hx hb d_Ms_init_0 rfl (lv_at hl 0 rfl) ?_
  refine ob_oinit Cx hl.1 (by decide) (Nat.le_of_ble_eq_true rfl) w_m_Ms_3 d_Ms_init_1 ?_
  refine lv_aload_n hx hb d_Ms_init_4 rfl (lv_at hl 0 rfl) ?_
  refine ob_newO Cx hP hS ck_0 hz w_k_Ms_9 w_q_0 w_i_By nf_0 (by omega) (by omega) d_Ms_init_5 (fun H hP hS hz => ?_)
  obtain ⟨t5, et5, h⟩ := ob_b_some h
  rw [Option.some.inj et5] at hP hz
  refine lv_dup hx hb d_Ms_init_8 rfl ?_
  refine lv_bipush (v := 12) hx hb d_Ms_init_9 (by decide) ?_
  refine ob_cI (nA := 1) (As := [.int (12 : Int32)]) (rest := [.ref (b + (ob_n t)), .ref (b + v0)]) hz Cx hl.1 hP hS (fun o ho => c_By_init (ob_n t) (12 : Int32) ho) mi_By_init w_m_Ms_11 rfl (by decide +kernel) ⟨rfl, rfl⟩ ⟨by decide, by decide⟩ ⟨by omega, by omega⟩ (Nat.le_of_ble_eq_true rfl) rfl d_Ms_init_11 h (fun t11 H locs h hP hS hz => ?_)
  refine ob_putFR (k := 8) hz hin rfl Cx hP hS ck_8 rfl rfl rfl rfl w_f_Ms_14 d_Ms_init_14 h (fun t14 H locs h hP hS hz => ?_)
  refine lv_aload_n hx hb d_Ms_init_17 rfl (lv_at hl 0 rfl) ?_
  refine ob_newO Cx hP hS ck_0 hz w_k_Ms_9 w_q_0 w_i_By nf_0 (by omega) (by omega) d_Ms_init_18 (fun H hP hS hz => ?_)
  obtain ⟨t18, et18, h⟩ := ob_b_some h
  rw [Option.some.inj et18] at hP hz
  refine lv_dup hx hb d_Ms_init_21 rfl ?_
  refine lv_bipush (v := 12) hx hb d_Ms_init_22 (by decide) ?_
  refine ob_cI (nA := 1) (As := [.int (12 : Int32)]) (rest := [.ref (b + (ob_n t14)), .ref (b + v0)]) hz Cx hl.1 hP hS (fun o ho => c_By_init (ob_n t14) (12 : Int32) ho) mi_By_init w_m_Ms_11 rfl (by decide +kernel) ⟨rfl, rfl⟩ ⟨by decide, by decide⟩ ⟨by omega, by omega⟩ (Nat.le_of_ble_eq_true rfl) rfl d_Ms_init_24 h (fun t24 H locs h hP hS hz => ?_)
  refine ob_putFR (k := 9) hz hin rfl Cx hP hS ck_8 rfl rfl rfl rfl w_f_Ms_20 d_Ms_init_27 h (fun t27 H locs h hP hS hz => ?_)
  refine lv_aload_n hx hb d_Ms_init_30 rfl (lv_at hl 0 rfl) ?_
  refine ob_newO Cx hP hS ck_0 hz w_k_Ms_9 w_q_0 w_i_By nf_0 (by omega) (by omega) d_Ms_init_31 (fun H hP hS hz => ?_)
  obtain ⟨t31, et31, h⟩ := ob_b_some h
  rw [Option.some.inj et31] at hP hz
  refine lv_dup hx hb d_Ms_init_34 rfl ?_
  refine lv_bipush (v := 32) hx hb d_Ms_init_35 (by decide) ?_
  refine ob_cI (nA := 1) (As := [.int (32 : Int32)]) (rest := [.ref (b + (ob_n t27)), .ref (b + v0)]) hz Cx hl.1 hP hS (fun o ho => c_By_init (ob_n t27) (32 : Int32) ho) mi_By_init w_m_Ms_11 rfl (by decide +kernel) ⟨rfl, rfl⟩ ⟨by decide, by decide⟩ ⟨by omega, by omega⟩ (Nat.le_of_ble_eq_true rfl) rfl d_Ms_init_37 h (fun t37 H locs h hP hS hz => ?_)
  refine ob_putFR (k := 10) hz hin rfl Cx hP hS ck_8 rfl rfl rfl rfl w_f_Ms_23 d_Ms_init_40 h (fun t40 H locs h hP hS hz => ?_)
  exact ob_vretC hz hz0 (by omega) (by omega) Cx hP hS d_Ms_init_43 h
set_option maxHeartbeats 4000000 in
set_option maxRecDepth 100000 in
theorem c_Ob_init {l : Launch} {b : Nat} {D : va_G} {cA : Nat → ClassId} {adK adV : Nat → Nat} (v0 : Nat) {t : ob_S} {out : ob_S} (h : X_Ob_init v0 t = some out) : Met l y_Ob_init (Cond.code y_Ob_init cb_Ob_init 1 none :: ob_T) { frames := 5, cells := 102, slots := 3356, locals := 104 } (ob_PreC b D cA adK adV [.ref (b + v0)] t) (ob_QC b D cA (ob_n t + 102) out) 102 3356 (ob_A b) := by
  refine ob_metC (by decide) rfl (Nat.le_of_ble_eq_true rfl) ?_
  intro p e R s m args below meth c ls Cx hin hR hz hP hS hl
  have hl : lv_has ls 1 [(0, .ref (b + v0))] := hl
  have hx := Cx.1.1
  have hb := Cx.1.2.1
  have hz0 : s.heap.size = b + ob_n t := hz
  obtain ⟨hRc, hRs⟩ := hR
  unfold X_Ob_init at h
  obtain ⟨H, hH⟩ : ∃ H, H = s.heap := ⟨_, rfl⟩
  obtain ⟨locs, hL⟩ : ∃ locs : List Loc, locs = [] := ⟨_, rfl⟩
  rw [← hH] at hP
  have hS : va_S (ob_A b) s.heap H locs := by rw [hH, hL]; exact hS
  suffices hW : W p l e R s m args below meth c H locs 0 0 (MQ below (ob_QC b D cA (ob_n t + 102) out) args s 102 3356 (ob_A b)) (F0 m 0 ls []) by rw [hH, hL] at hW; exact hW
  refine lv_aload_n hx hb d_Ob_init_0 rfl (lv_at hl 0 rfl) ?_
  refine ob_oinit Cx hl.1 (by decide) (Nat.le_of_ble_eq_true rfl) w_m_Ob_1 d_Ob_init_1 ?_
  refine lv_aload_n hx hb d_Ob_init_4 rfl (lv_at hl 0 rfl) ?_
  refine ob_newO Cx hP hS ck_1 hz w_k_Ob_7 w_q_1 w_i_Li nf_1 (by omega) (by omega) d_Ob_init_5 (fun H hP hS hz => ?_)
  obtain ⟨t5, et5, h⟩ := ob_b_some h
  rw [Option.some.inj et5] at hP hz
  refine lv_dup hx hb d_Ob_init_8 rfl ?_
  refine ob_cI (nA := 0) (As := []) (rest := [.ref (b + (ob_n t)), .ref (b + v0)]) hz Cx hl.1 hP hS (fun o ho => c_Li_init (ob_n t) ho) mi_Li_init w_m_Ob_9 rfl (by decide +kernel) ⟨rfl, rfl⟩ ⟨by decide, by decide⟩ ⟨by omega, by omega⟩ (Nat.le_of_ble_eq_true rfl) rfl d_Ob_init_9 h (fun t9 H locs h hP hS hz => ?_)
  refine ob_putFR (k := 0) hz hin rfl Cx hP hS ck_10 rfl rfl rfl rfl w_f_Ob_10 d_Ob_init_12 h (fun t12 H locs h hP hS hz => ?_)
  refine lv_aload_n hx hb d_Ob_init_15 rfl (lv_at hl 0 rfl) ?_
  refine ob_newO Cx hP hS ck_7 hz w_k_Ob_16 w_q_7 w_i_Cl nf_7 (by omega) (by omega) d_Ob_init_16 (fun H hP hS hz => ?_)
  obtain ⟨t16, et16, h⟩ := ob_b_some h
  rw [Option.some.inj et16] at hP hz
  refine lv_dup hx hb d_Ob_init_19 rfl ?_
  refine lv_aload_n hx hb d_Ob_init_20 rfl (lv_at hl 0 rfl) ?_
  refine ob_getR (k := 0) Cx hP ck_10 rfl w_f_Ob_10 d_Ob_init_21 h (fun n21 h => ?_)
  refine ob_cI (nA := 1) (As := [.ref (b + n21)]) (rest := [.ref (b + (ob_n t12)), .ref (b + v0)]) hz Cx hl.1 hP hS (fun o ho => c_Cl_init (ob_n t12) n21 ho) mi_Cl_init w_m_Ob_18 rfl (by decide +kernel) ⟨rfl, rfl⟩ ⟨by decide, by decide⟩ ⟨by omega, by omega⟩ (Nat.le_of_ble_eq_true rfl) rfl d_Ob_init_24 h (fun t24 H locs h hP hS hz => ?_)
  refine ob_putFR (k := 1) hz hin rfl Cx hP hS ck_10 rfl rfl rfl rfl w_f_Ob_21 d_Ob_init_27 h (fun t27 H locs h hP hS hz => ?_)
  refine lv_aload_n hx hb d_Ob_init_30 rfl (lv_at hl 0 rfl) ?_
  refine ob_newO Cx hP hS ck_9 hz w_k_Ob_25 w_q_9 w_i_Se nf_9 (by omega) (by omega) d_Ob_init_31 (fun H hP hS hz => ?_)
  obtain ⟨t31, et31, h⟩ := ob_b_some h
  rw [Option.some.inj et31] at hP hz
  refine lv_dup hx hb d_Ob_init_34 rfl ?_
  refine lv_aload_n hx hb d_Ob_init_35 rfl (lv_at hl 0 rfl) ?_
  refine ob_getR (k := 0) Cx hP ck_10 rfl w_f_Ob_10 d_Ob_init_36 h (fun n36 h => ?_)
  refine ob_cI (nA := 1) (As := [.ref (b + n36)]) (rest := [.ref (b + (ob_n t27)), .ref (b + v0)]) hz Cx hl.1 hP hS (fun o ho => c_Se_init (ob_n t27) n36 ho) mi_Se_init w_m_Ob_27 rfl (by decide +kernel) ⟨rfl, rfl⟩ ⟨by decide, by decide⟩ ⟨by omega, by omega⟩ (Nat.le_of_ble_eq_true rfl) rfl d_Ob_init_39 h (fun t39 H locs h hP hS hz => ?_)
  refine ob_putFR (k := 2) hz hin rfl Cx hP hS ck_10 rfl rfl rfl rfl w_f_Ob_28 d_Ob_init_42 h (fun t42 H locs h hP hS hz => ?_)
  refine lv_aload_n hx hb d_Ob_init_45 rfl (lv_at hl 0 rfl) ?_
  refine ob_newO Cx hP hS ck_8 hz w_k_Ob_32 w_q_8 w_i_Ms nf_8 (by omega) (by omega) d_Ob_init_46 (fun H hP hS hz => ?_)
  obtain ⟨t46, et46, h⟩ := ob_b_some h
  rw [Option.some.inj et46] at hP hz
  refine lv_dup hx hb d_Ob_init_49 rfl ?_
  refine ob_cI (nA := 0) (As := []) (rest := [.ref (b + (ob_n t42)), .ref (b + v0)]) hz Cx hl.1 hP hS (fun o ho => c_Ms_init (ob_n t42) ho) mi_Ms_init w_m_Ob_34 rfl (by decide +kernel) ⟨rfl, rfl⟩ ⟨by decide, by decide⟩ ⟨by omega, by omega⟩ (Nat.le_of_ble_eq_true rfl) rfl d_Ob_init_50 h (fun t50 H locs h hP hS hz => ?_)
  refine ob_putFR (k := 3) hz hin rfl Cx hP hS ck_10 rfl rfl rfl rfl w_f_Ob_35 d_Ob_init_53 h (fun t53 H locs h hP hS hz => ?_)
  refine lv_aload_n hx hb d_Ob_init_56 rfl (lv_at hl 0 rfl) ?_
  refine lv_iconst (v := 0) hx hb d_Ob_init_57 (by decide) ?_
  refine ob_putIz (k := 4) hz Cx hP hS ck_10 rfl rfl rfl w_f_Ob_39 d_Ob_init_58 h (fun t58 H locs h hP hS hz => ?_)
  exact ob_vretC hz hz0 (by omega) (by omega) Cx hP hS d_Ob_init_61 h
set_option maxHeartbeats 4000000 in
set_option maxRecDepth 100000 in
theorem c_Mo_init {l : Launch} {b : Nat} {D : va_G} {cA : Nat → ClassId} {adK adV : Nat → Nat} (v0 : Nat) {t : ob_S} {out : ob_S} (h : X_Mo_init v0 t = some out) : Met l y_Mo_init (Cond.code y_Mo_init cb_Mo_init 1 none :: ob_T) { frames := 1, cells := 40, slots := 2450, locals := 20 } (ob_PreC b D cA adK adV [.ref (b + v0)] t) (ob_QC b D cA (ob_n t + 40) out) 40 2450 (ob_A b) := by
  refine ob_metC (by decide) rfl (Nat.le_of_ble_eq_true rfl) ?_
  intro p e R s m args below meth c ls Cx hin hR hz hP hS hl
  have hl : lv_has ls 1 [(0, .ref (b + v0))] := hl
  have hx := Cx.1.1
  have hb := Cx.1.2.1
  have hz0 : s.heap.size = b + ob_n t := hz
  obtain ⟨hRc, hRs⟩ := hR
  unfold X_Mo_init at h
  obtain ⟨H, hH⟩ : ∃ H, H = s.heap := ⟨_, rfl⟩
  obtain ⟨locs, hL⟩ : ∃ locs : List Loc, locs = [] := ⟨_, rfl⟩
  rw [← hH] at hP
  have hS : va_S (ob_A b) s.heap H locs := by rw [hH, hL]; exact hS
  suffices hW : W p l e R s m args below meth c H locs 0 0 (MQ below (ob_QC b D cA (ob_n t + 40) out) args s 40 2450 (ob_A b)) (F0 m 0 ls []) by rw [hH, hL] at hW; exact hW
  refine lv_aload_n hx hb d_Mo_init_0 rfl (lv_at hl 0 rfl) ?_
  refine ob_oinit Cx hl.1 (by decide) (Nat.le_of_ble_eq_true rfl) w_m_Mo_1 d_Mo_init_1 ?_
  refine lv_aload_n hx hb d_Mo_init_4 rfl (lv_at hl 0 rfl) ?_
  refine lv_sipush (v := 1024) hx hb d_Mo_init_5 (by decide) ?_
  refine ob_newI (mx := 1024) Cx hP hS hz (by decide) (by omega) (by omega) d_Mo_init_8 h (fun t8 H h _ hP hS hz => ?_)
  refine ob_putFR (k := 0) hz hin rfl Cx hP hS ck_11 rfl rfl rfl rfl w_f_Mo_7 d_Mo_init_10 h (fun t10 H locs h hP hS hz => ?_)
  refine lv_aload_n hx hb d_Mo_init_13 rfl (lv_at hl 0 rfl) ?_
  refine lv_bipush (v := 16) hx hb d_Mo_init_14 (by decide) ?_
  refine ob_newI (mx := 16) Cx hP hS hz (by decide) (by omega) (by omega) d_Mo_init_16 h (fun t16 H h _ hP hS hz => ?_)
  refine ob_putFR (k := 1) hz hin rfl Cx hP hS ck_11 rfl rfl rfl rfl w_f_Mo_13 d_Mo_init_18 h (fun t18 H locs h hP hS hz => ?_)
  refine lv_aload_n hx hb d_Mo_init_21 rfl (lv_at hl 0 rfl) ?_
  refine lv_bipush (v := 16) hx hb d_Mo_init_22 (by decide) ?_
  refine ob_newI (mx := 16) Cx hP hS hz (by decide) (by omega) (by omega) d_Mo_init_24 h (fun t24 H h _ hP hS hz => ?_)
  refine ob_putFR (k := 2) hz hin rfl Cx hP hS ck_11 rfl rfl rfl rfl w_f_Mo_16 d_Mo_init_26 h (fun t26 H locs h hP hS hz => ?_)
  refine lv_aload_n hx hb d_Mo_init_29 rfl (lv_at hl 0 rfl) ?_
  refine lv_iconst (v := 1) hx hb d_Mo_init_30 (by decide) ?_
  refine ob_putIz (k := 5) hz Cx hP hS ck_11 rfl rfl rfl w_f_Mo_19 d_Mo_init_31 h (fun t31 H locs h hP hS hz => ?_)
  refine lv_aload_n hx hb d_Mo_init_34 rfl (lv_at hl 0 rfl) ?_
  refine lv_iconst (v := 1) hx hb d_Mo_init_35 (by decide) ?_
  refine ob_putIz (k := 6) hz Cx hP hS ck_11 rfl rfl rfl w_f_Mo_23 d_Mo_init_36 h (fun t36 H locs h hP hS hz => ?_)
  refine lv_aload_n hx hb d_Mo_init_39 rfl (lv_at hl 0 rfl) ?_
  refine lv_iconst (v := 4) hx hb d_Mo_init_40 (by decide) ?_
  refine ob_newZ (mx := 4) Cx hP hS hz (by decide) (by omega) (by omega) d_Mo_init_41 h (fun t41 H h _ hP hS hz => ?_)
  refine ob_putFR (k := 7) hz hin rfl Cx hP hS ck_11 rfl rfl rfl rfl w_f_Mo_26 d_Mo_init_43 h (fun t43 H locs h hP hS hz => ?_)
  refine lv_aload_n hx hb d_Mo_init_46 rfl (lv_at hl 0 rfl) ?_
  refine lv_iconst (v := 4) hx hb d_Mo_init_47 (by decide) ?_
  refine ob_newI (mx := 4) Cx hP hS hz (by decide) (by omega) (by omega) d_Mo_init_48 h (fun t48 H h _ hP hS hz => ?_)
  refine ob_putFR (k := 8) hz hin rfl Cx hP hS ck_11 rfl rfl rfl rfl w_f_Mo_30 d_Mo_init_50 h (fun t50 H locs h hP hS hz => ?_)
  refine lv_aload_n hx hb d_Mo_init_53 rfl (lv_at hl 0 rfl) ?_
  refine lv_iconst (v := 4) hx hb d_Mo_init_54 (by decide) ?_
  refine ob_newI (mx := 4) Cx hP hS hz (by decide) (by omega) (by omega) d_Mo_init_55 h (fun t55 H h _ hP hS hz => ?_)
  refine ob_putFR (k := 9) hz hin rfl Cx hP hS ck_11 rfl rfl rfl rfl w_f_Mo_33 d_Mo_init_57 h (fun t57 H locs h hP hS hz => ?_)
  refine lv_aload_n hx hb d_Mo_init_60 rfl (lv_at hl 0 rfl) ?_
  refine lv_iconst (v := 4) hx hb d_Mo_init_61 (by decide) ?_
  refine ob_newI (mx := 4) Cx hP hS hz (by decide) (by omega) (by omega) d_Mo_init_62 h (fun t62 H h _ hP hS hz => ?_)
  refine ob_putFR (k := 10) hz hin rfl Cx hP hS ck_11 rfl rfl rfl rfl w_f_Mo_36 d_Mo_init_64 h (fun t64 H locs h hP hS hz => ?_)
  refine lv_aload_n hx hb d_Mo_init_67 rfl (lv_at hl 0 rfl) ?_
  refine lv_iconst (v := 4) hx hb d_Mo_init_68 (by decide) ?_
  refine ob_newI (mx := 4) Cx hP hS hz (by decide) (by omega) (by omega) d_Mo_init_69 h (fun t69 H h _ hP hS hz => ?_)
  refine ob_putFR (k := 11) hz hin rfl Cx hP hS ck_11 rfl rfl rfl rfl w_f_Mo_39 d_Mo_init_71 h (fun t71 H locs h hP hS hz => ?_)
  refine lv_aload_n hx hb d_Mo_init_74 rfl (lv_at hl 0 rfl) ?_
  refine lv_sipush (v := 256) hx hb d_Mo_init_75 (by decide) ?_
  refine ob_newI (mx := 256) Cx hP hS hz (by decide) (by omega) (by omega) d_Mo_init_78 h (fun t78 H h _ hP hS hz => ?_)
  refine ob_putFR (k := 12) hz hin rfl Cx hP hS ck_11 rfl rfl rfl rfl w_f_Mo_42 d_Mo_init_80 h (fun t80 H locs h hP hS hz => ?_)
  refine lv_aload_n hx hb d_Mo_init_83 rfl (lv_at hl 0 rfl) ?_
  refine lv_iconst (v := 4) hx hb d_Mo_init_84 (by decide) ?_
  refine ob_newI (mx := 4) Cx hP hS hz (by decide) (by omega) (by omega) d_Mo_init_85 h (fun t85 H h _ hP hS hz => ?_)
  refine ob_putFR (k := 13) hz hin rfl Cx hP hS ck_11 rfl rfl rfl rfl w_f_Mo_45 d_Mo_init_87 h (fun t87 H locs h hP hS hz => ?_)
  refine lv_aload_n hx hb d_Mo_init_90 rfl (lv_at hl 0 rfl) ?_
  refine lv_iconst (v := 2) hx hb d_Mo_init_91 (by decide) ?_
  refine ob_newI (mx := 2) Cx hP hS hz (by decide) (by omega) (by omega) d_Mo_init_92 h (fun t92 H h _ hP hS hz => ?_)
  refine ob_putFR (k := 14) hz hin rfl Cx hP hS ck_11 rfl rfl rfl rfl w_f_Mo_48 d_Mo_init_94 h (fun t94 H locs h hP hS hz => ?_)
  refine lv_aload_n hx hb d_Mo_init_97 rfl (lv_at hl 0 rfl) ?_
  refine lv_iconst (v := 2) hx hb d_Mo_init_98 (by decide) ?_
  refine ob_newI (mx := 2) Cx hP hS hz (by decide) (by omega) (by omega) d_Mo_init_99 h (fun t99 H h _ hP hS hz => ?_)
  refine ob_putFR (k := 15) hz hin rfl Cx hP hS ck_11 rfl rfl rfl rfl w_f_Mo_51 d_Mo_init_101 h (fun t101 H locs h hP hS hz => ?_)
  refine lv_aload_n hx hb d_Mo_init_104 rfl (lv_at hl 0 rfl) ?_
  refine lv_iconst (v := 2) hx hb d_Mo_init_105 (by decide) ?_
  refine ob_newI (mx := 2) Cx hP hS hz (by decide) (by omega) (by omega) d_Mo_init_106 h (fun t106 H h _ hP hS hz => ?_)
  refine ob_putFR (k := 16) hz hin rfl Cx hP hS ck_11 rfl rfl rfl rfl w_f_Mo_54 d_Mo_init_108 h (fun t108 H locs h hP hS hz => ?_)
  refine lv_aload_n hx hb d_Mo_init_111 rfl (lv_at hl 0 rfl) ?_
  refine lv_iconst (v := 2) hx hb d_Mo_init_112 (by decide) ?_
  refine ob_newI (mx := 2) Cx hP hS hz (by decide) (by omega) (by omega) d_Mo_init_113 h (fun t113 H h _ hP hS hz => ?_)
  refine ob_putFR (k := 17) hz hin rfl Cx hP hS ck_11 rfl rfl rfl rfl w_f_Mo_57 d_Mo_init_115 h (fun t115 H locs h hP hS hz => ?_)
  refine lv_aload_n hx hb d_Mo_init_118 rfl (lv_at hl 0 rfl) ?_
  refine lv_iconst (v := 2) hx hb d_Mo_init_119 (by decide) ?_
  refine ob_newI (mx := 2) Cx hP hS hz (by decide) (by omega) (by omega) d_Mo_init_120 h (fun t120 H h _ hP hS hz => ?_)
  refine ob_putFR (k := 18) hz hin rfl Cx hP hS ck_11 rfl rfl rfl rfl w_f_Mo_60 d_Mo_init_122 h (fun t122 H locs h hP hS hz => ?_)
  refine lv_aload_n hx hb d_Mo_init_125 rfl (lv_at hl 0 rfl) ?_
  refine lv_iconst (v := 2) hx hb d_Mo_init_126 (by decide) ?_
  refine ob_newI (mx := 2) Cx hP hS hz (by decide) (by omega) (by omega) d_Mo_init_127 h (fun t127 H h _ hP hS hz => ?_)
  refine ob_putFR (k := 19) hz hin rfl Cx hP hS ck_11 rfl rfl rfl rfl w_f_Mo_63 d_Mo_init_129 h (fun t129 H locs h hP hS hz => ?_)
  refine lv_aload_n hx hb d_Mo_init_132 rfl (lv_at hl 0 rfl) ?_
  refine lv_iconst (v := 2) hx hb d_Mo_init_133 (by decide) ?_
  refine ob_newZ (mx := 2) Cx hP hS hz (by decide) (by omega) (by omega) d_Mo_init_134 h (fun t134 H h _ hP hS hz => ?_)
  refine ob_putFR (k := 20) hz hin rfl Cx hP hS ck_11 rfl rfl rfl rfl w_f_Mo_66 d_Mo_init_136 h (fun t136 H locs h hP hS hz => ?_)
  refine lv_aload_n hx hb d_Mo_init_139 rfl (lv_at hl 0 rfl) ?_
  refine lv_iconst (v := 2) hx hb d_Mo_init_140 (by decide) ?_
  refine ob_newZ (mx := 2) Cx hP hS hz (by decide) (by omega) (by omega) d_Mo_init_141 h (fun t141 H h _ hP hS hz => ?_)
  refine ob_putFR (k := 21) hz hin rfl Cx hP hS ck_11 rfl rfl rfl rfl w_f_Mo_69 d_Mo_init_143 h (fun t143 H locs h hP hS hz => ?_)
  refine lv_aload_n hx hb d_Mo_init_146 rfl (lv_at hl 0 rfl) ?_
  refine lv_iconst (v := 2) hx hb d_Mo_init_147 (by decide) ?_
  refine ob_newZ (mx := 2) Cx hP hS hz (by decide) (by omega) (by omega) d_Mo_init_148 h (fun t148 H h _ hP hS hz => ?_)
  refine ob_putFR (k := 22) hz hin rfl Cx hP hS ck_11 rfl rfl rfl rfl w_f_Mo_72 d_Mo_init_150 h (fun t150 H locs h hP hS hz => ?_)
  refine lv_aload_n hx hb d_Mo_init_153 rfl (lv_at hl 0 rfl) ?_
  refine lv_iconst (v := 2) hx hb d_Mo_init_154 (by decide) ?_
  refine ob_newI (mx := 2) Cx hP hS hz (by decide) (by omega) (by omega) d_Mo_init_155 h (fun t155 H h _ hP hS hz => ?_)
  refine ob_putFR (k := 23) hz hin rfl Cx hP hS ck_11 rfl rfl rfl rfl w_f_Mo_75 d_Mo_init_157 h (fun t157 H locs h hP hS hz => ?_)
  refine lv_aload_n hx hb d_Mo_init_160 rfl (lv_at hl 0 rfl) ?_
  refine lv_iconst (v := 2) hx hb d_Mo_init_161 (by decide) ?_
  refine ob_newI (mx := 2) Cx hP hS hz (by decide) (by omega) (by omega) d_Mo_init_162 h (fun t162 H h _ hP hS hz => ?_)
  refine ob_putFR (k := 24) hz hin rfl Cx hP hS ck_11 rfl rfl rfl rfl w_f_Mo_78 d_Mo_init_164 h (fun t164 H locs h hP hS hz => ?_)
  refine lv_aload_n hx hb d_Mo_init_167 rfl (lv_at hl 0 rfl) ?_
  refine lv_iconst (v := 2) hx hb d_Mo_init_168 (by decide) ?_
  refine ob_newZ (mx := 2) Cx hP hS hz (by decide) (by omega) (by omega) d_Mo_init_169 h (fun t169 H h _ hP hS hz => ?_)
  refine ob_putFR (k := 25) hz hin rfl Cx hP hS ck_11 rfl rfl rfl rfl w_f_Mo_81 d_Mo_init_171 h (fun t171 H locs h hP hS hz => ?_)
  refine lv_aload_n hx hb d_Mo_init_174 rfl (lv_at hl 0 rfl) ?_
  refine lv_sipush (v := 160) hx hb d_Mo_init_175 (by decide) ?_
  refine ob_newI (mx := 160) Cx hP hS hz (by decide) (by omega) (by omega) d_Mo_init_178 h (fun t178 H h _ hP hS hz => ?_)
  refine ob_putFR (k := 26) hz hin rfl Cx hP hS ck_11 rfl rfl rfl rfl w_f_Mo_84 d_Mo_init_180 h (fun t180 H locs h hP hS hz => ?_)
  refine lv_aload_n hx hb d_Mo_init_183 rfl (lv_at hl 0 rfl) ?_
  refine lv_iconst (v := 2) hx hb d_Mo_init_184 (by decide) ?_
  refine ob_newI (mx := 2) Cx hP hS hz (by decide) (by omega) (by omega) d_Mo_init_185 h (fun t185 H h _ hP hS hz => ?_)
  refine ob_putFR (k := 27) hz hin rfl Cx hP hS ck_11 rfl rfl rfl rfl w_f_Mo_87 d_Mo_init_187 h (fun t187 H locs h hP hS hz => ?_)
  refine lv_aload_n hx hb d_Mo_init_190 rfl (lv_at hl 0 rfl) ?_
  refine lv_sipush (v := 256) hx hb d_Mo_init_191 (by decide) ?_
  refine ob_newI (mx := 256) Cx hP hS hz (by decide) (by omega) (by omega) d_Mo_init_194 h (fun t194 H h _ hP hS hz => ?_)
  refine ob_putFR (k := 28) hz hin rfl Cx hP hS ck_11 rfl rfl rfl rfl w_f_Mo_90 d_Mo_init_196 h (fun t196 H locs h hP hS hz => ?_)
  refine lv_aload_n hx hb d_Mo_init_199 rfl (lv_at hl 0 rfl) ?_
  refine lv_iconst (v := 4) hx hb d_Mo_init_200 (by decide) ?_
  refine ob_newI (mx := 4) Cx hP hS hz (by decide) (by omega) (by omega) d_Mo_init_201 h (fun t201 H h _ hP hS hz => ?_)
  refine ob_putFR (k := 29) hz hin rfl Cx hP hS ck_11 rfl rfl rfl rfl w_f_Mo_93 d_Mo_init_203 h (fun t203 H locs h hP hS hz => ?_)
  refine lv_aload_n hx hb d_Mo_init_206 rfl (lv_at hl 0 rfl) ?_
  refine lv_sipush (v := 256) hx hb d_Mo_init_207 (by decide) ?_
  refine ob_newI (mx := 256) Cx hP hS hz (by decide) (by omega) (by omega) d_Mo_init_210 h (fun t210 H h _ hP hS hz => ?_)
  refine ob_putFR (k := 30) hz hin rfl Cx hP hS ck_11 rfl rfl rfl rfl w_f_Mo_96 d_Mo_init_212 h (fun t212 H locs h hP hS hz => ?_)
  refine lv_aload_n hx hb d_Mo_init_215 rfl (lv_at hl 0 rfl) ?_
  refine lv_iconst (v := 4) hx hb d_Mo_init_216 (by decide) ?_
  refine ob_newI (mx := 4) Cx hP hS hz (by decide) (by omega) (by omega) d_Mo_init_217 h (fun t217 H h _ hP hS hz => ?_)
  refine ob_putFR (k := 31) hz hin rfl Cx hP hS ck_11 rfl rfl rfl rfl w_f_Mo_99 d_Mo_init_219 h (fun t219 H locs h hP hS hz => ?_)
  refine lv_aload_n hx hb d_Mo_init_222 rfl (lv_at hl 0 rfl) ?_
  refine lv_iconst (v := 2) hx hb d_Mo_init_223 (by decide) ?_
  refine ob_newI (mx := 2) Cx hP hS hz (by decide) (by omega) (by omega) d_Mo_init_224 h (fun t224 H h _ hP hS hz => ?_)
  refine ob_putFR (k := 33) hz hin rfl Cx hP hS ck_11 rfl rfl rfl rfl w_f_Mo_102 d_Mo_init_226 h (fun t226 H locs h hP hS hz => ?_)
  refine lv_aload_n hx hb d_Mo_init_229 rfl (lv_at hl 0 rfl) ?_
  refine lv_iconst (v := 2) hx hb d_Mo_init_230 (by decide) ?_
  refine ob_newI (mx := 2) Cx hP hS hz (by decide) (by omega) (by omega) d_Mo_init_231 h (fun t231 H h _ hP hS hz => ?_)
  refine ob_putFR (k := 34) hz hin rfl Cx hP hS ck_11 rfl rfl rfl rfl w_f_Mo_105 d_Mo_init_233 h (fun t233 H locs h hP hS hz => ?_)
  refine lv_aload_n hx hb d_Mo_init_236 rfl (lv_at hl 0 rfl) ?_
  refine lv_iconst (v := 2) hx hb d_Mo_init_237 (by decide) ?_
  refine ob_newI (mx := 2) Cx hP hS hz (by decide) (by omega) (by omega) d_Mo_init_238 h (fun t238 H h _ hP hS hz => ?_)
  refine ob_putFR (k := 35) hz hin rfl Cx hP hS ck_11 rfl rfl rfl rfl w_f_Mo_108 d_Mo_init_240 h (fun t240 H locs h hP hS hz => ?_)
  refine lv_aload_n hx hb d_Mo_init_243 rfl (lv_at hl 0 rfl) ?_
  refine lv_iconst (v := 2) hx hb d_Mo_init_244 (by decide) ?_
  refine ob_newZ (mx := 2) Cx hP hS hz (by decide) (by omega) (by omega) d_Mo_init_245 h (fun t245 H h _ hP hS hz => ?_)
  refine ob_putFR (k := 36) hz hin rfl Cx hP hS ck_11 rfl rfl rfl rfl w_f_Mo_111 d_Mo_init_247 h (fun t247 H locs h hP hS hz => ?_)
  refine lv_aload_n hx hb d_Mo_init_250 rfl (lv_at hl 0 rfl) ?_
  refine lv_iconst (v := 4) hx hb d_Mo_init_251 (by decide) ?_
  refine ob_newI (mx := 4) Cx hP hS hz (by decide) (by omega) (by omega) d_Mo_init_252 h (fun t252 H h _ hP hS hz => ?_)
  refine ob_putFR (k := 40) hz hin rfl Cx hP hS ck_11 rfl rfl rfl rfl w_f_Mo_114 d_Mo_init_254 h (fun t254 H locs h hP hS hz => ?_)
  refine lv_aload_n hx hb d_Mo_init_257 rfl (lv_at hl 0 rfl) ?_
  refine lv_iconst (v := 4) hx hb d_Mo_init_258 (by decide) ?_
  refine ob_newI (mx := 4) Cx hP hS hz (by decide) (by omega) (by omega) d_Mo_init_259 h (fun t259 H h _ hP hS hz => ?_)
  refine ob_putFR (k := 41) hz hin rfl Cx hP hS ck_11 rfl rfl rfl rfl w_f_Mo_117 d_Mo_init_261 h (fun t261 H locs h hP hS hz => ?_)
  refine lv_aload_n hx hb d_Mo_init_264 rfl (lv_at hl 0 rfl) ?_
  refine lv_sipush (v := 256) hx hb d_Mo_init_265 (by decide) ?_
  refine ob_newI (mx := 256) Cx hP hS hz (by decide) (by omega) (by omega) d_Mo_init_268 h (fun t268 H h _ hP hS hz => ?_)
  refine ob_putFR (k := 42) hz hin rfl Cx hP hS ck_11 rfl rfl rfl rfl w_f_Mo_120 d_Mo_init_270 h (fun t270 H locs h hP hS hz => ?_)
  refine lv_aload_n hx hb d_Mo_init_273 rfl (lv_at hl 0 rfl) ?_
  refine lv_iconst (v := 4) hx hb d_Mo_init_274 (by decide) ?_
  refine ob_newI (mx := 4) Cx hP hS hz (by decide) (by omega) (by omega) d_Mo_init_275 h (fun t275 H h _ hP hS hz => ?_)
  refine ob_putFR (k := 43) hz hin rfl Cx hP hS ck_11 rfl rfl rfl rfl w_f_Mo_123 d_Mo_init_277 h (fun t277 H locs h hP hS hz => ?_)
  refine lv_aload_n hx hb d_Mo_init_280 rfl (lv_at hl 0 rfl) ?_
  refine lv_bipush (v := 64) hx hb d_Mo_init_281 (by decide) ?_
  refine ob_newI (mx := 64) Cx hP hS hz (by decide) (by omega) (by omega) d_Mo_init_283 h (fun t283 H h _ hP hS hz => ?_)
  refine ob_putFR (k := 44) hz hin rfl Cx hP hS ck_11 rfl rfl rfl rfl w_f_Mo_126 d_Mo_init_285 h (fun t285 H locs h hP hS hz => ?_)
  refine lv_aload_n hx hb d_Mo_init_288 rfl (lv_at hl 0 rfl) ?_
  refine lv_bipush (v := 64) hx hb d_Mo_init_289 (by decide) ?_
  refine ob_newI (mx := 64) Cx hP hS hz (by decide) (by omega) (by omega) d_Mo_init_291 h (fun t291 H h _ hP hS hz => ?_)
  refine ob_putFR (k := 47) hz hin rfl Cx hP hS ck_11 rfl rfl rfl rfl w_f_Mo_129 d_Mo_init_293 h (fun t293 H locs h hP hS hz => ?_)
  refine lv_aload_n hx hb d_Mo_init_296 rfl (lv_at hl 0 rfl) ?_
  refine lv_iconst (v := 2) hx hb d_Mo_init_297 (by decide) ?_
  refine ob_newI (mx := 2) Cx hP hS hz (by decide) (by omega) (by omega) d_Mo_init_298 h (fun t298 H h _ hP hS hz => ?_)
  refine ob_putFR (k := 55) hz hin rfl Cx hP hS ck_11 rfl rfl rfl rfl w_f_Mo_132 d_Mo_init_300 h (fun t300 H locs h hP hS hz => ?_)
  refine lv_aload_n hx hb d_Mo_init_303 rfl (lv_at hl 0 rfl) ?_
  refine lv_iconst (v := 2) hx hb d_Mo_init_304 (by decide) ?_
  refine ob_newI (mx := 2) Cx hP hS hz (by decide) (by omega) (by omega) d_Mo_init_305 h (fun t305 H h _ hP hS hz => ?_)
  refine ob_putFR (k := 56) hz hin rfl Cx hP hS ck_11 rfl rfl rfl rfl w_f_Mo_135 d_Mo_init_307 h (fun t307 H locs h hP hS hz => ?_)
  exact ob_vretC hz hz0 (by omega) (by omega) Cx hP hS d_Mo_init_310 h

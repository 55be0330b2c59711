/-! The texts: String.length, isEmpty, charAt, as the JDK has them -/
def y_Str_coder : MethodName := ⟨"java/lang/String", "coder", "()B"⟩
def y_Str_isLatin1 : MethodName := ⟨"java/lang/String", "isLatin1", "()Z"⟩
def y_Str_checkIndex : MethodName := ⟨"java/lang/String", "checkIndex", "(II)V"⟩
def y_SL_charAt : MethodName := ⟨"java/lang/StringLatin1", "charAt", "([BI)C"⟩
def y_Pc_checkIndex : MethodName := ⟨"jdk/internal/util/Preconditions", "checkIndex", "(IILjava/util/function/BiFunction;)I"⟩
abbrev cb_Str_coder : ByteArray := prog_15_method_152_code
abbrev cb_Str_isLatin1 : ByteArray := prog_15_method_154_code
abbrev cb_Str_checkIndex : ByteArray := prog_15_method_155_code
abbrev cb_SL_charAt : ByteArray := prog_16_method_2_code
abbrev cb_Pc_checkIndex : ByteArray := prog_19_method_11_code
theorem w_i_SL : Cond.initialized "java/lang/StringLatin1" ∈ ob_T := List.mem_filter.mpr ⟨List.mem_of_getElem? (i := 76) (by decide +kernel), by decide +kernel⟩
theorem w_i_Pc : Cond.initialized "jdk/internal/util/Preconditions" ∈ ob_T := List.mem_filter.mpr ⟨List.mem_of_getElem? (i := 77) (by decide +kernel), by decide +kernel⟩
theorem w_c_Str_coder : Cond.code y_Str_coder cb_Str_coder 1 (some .byte) ∈ ob_T := List.mem_filter.mpr ⟨List.mem_of_getElem? (i := 504) (by decide +kernel), by decide +kernel⟩
theorem w_x_Str_coder : Cond.instanceMethod y_Str_coder ∈ ob_T := List.mem_filter.mpr ⟨List.mem_of_getElem? (i := 502) (by decide +kernel), by decide +kernel⟩
theorem w_e_Str_coder : Cond.selects "java/lang/String" y_Str_coder y_Str_coder ∈ ob_T := List.mem_filter.mpr ⟨List.mem_of_getElem? (i := 503) (by decide +kernel), by decide +kernel⟩
theorem mv_Str_coder : ob_mv y_Str_coder "java/lang/String" cb_Str_coder 1 (some .byte) := ⟨w_c_Str_coder, w_x_Str_coder, w_e_Str_coder, w_i_Str, rfl, by decide, by decide⟩
theorem w_c_Str_isLatin1 : Cond.code y_Str_isLatin1 cb_Str_isLatin1 1 (some .boolean) ∈ ob_T := List.mem_filter.mpr ⟨List.mem_of_getElem? (i := 514) (by decide +kernel), by decide +kernel⟩
theorem w_x_Str_isLatin1 : Cond.instanceMethod y_Str_isLatin1 ∈ ob_T := List.mem_filter.mpr ⟨List.mem_of_getElem? (i := 512) (by decide +kernel), by decide +kernel⟩
theorem w_e_Str_isLatin1 : Cond.selects "java/lang/String" y_Str_isLatin1 y_Str_isLatin1 ∈ ob_T := List.mem_filter.mpr ⟨List.mem_of_getElem? (i := 513) (by decide +kernel), by decide +kernel⟩
theorem mv_Str_isLatin1 : ob_mv y_Str_isLatin1 "java/lang/String" cb_Str_isLatin1 1 (some .boolean) := ⟨w_c_Str_isLatin1, w_x_Str_isLatin1, w_e_Str_isLatin1, w_i_Str, rfl, by decide, by decide⟩
theorem w_c_Str_checkIndex : Cond.code y_Str_checkIndex cb_Str_checkIndex 2 none ∈ ob_T := List.mem_filter.mpr ⟨List.mem_of_getElem? (i := 520) (by decide +kernel), by decide +kernel⟩
theorem w_s_Str_checkIndex : Cond.static y_Str_checkIndex ∈ ob_T := List.mem_filter.mpr ⟨List.mem_of_getElem? (i := 519) (by decide +kernel), by decide +kernel⟩
theorem ms_Str_checkIndex : ob_ms y_Str_checkIndex cb_Str_checkIndex 2 none := ⟨w_c_Str_checkIndex, w_s_Str_checkIndex, w_i_Str, by decide, by decide⟩
theorem w_c_SL_charAt : Cond.code y_SL_charAt cb_SL_charAt 2 (some .char) ∈ ob_T := List.mem_filter.mpr ⟨List.mem_of_getElem? (i := 517) (by decide +kernel), by decide +kernel⟩
theorem w_s_SL_charAt : Cond.static y_SL_charAt ∈ ob_T := List.mem_filter.mpr ⟨List.mem_of_getElem? (i := 516) (by decide +kernel), by decide +kernel⟩
theorem ms_SL_charAt : ob_ms y_SL_charAt cb_SL_charAt 2 (some .char) := ⟨w_c_SL_charAt, w_s_SL_charAt, w_i_SL, by decide, by decide⟩
theorem w_c_Pc_checkIndex : Cond.code y_Pc_checkIndex cb_Pc_checkIndex 3 (some .int) ∈ ob_T := List.mem_filter.mpr ⟨List.mem_of_getElem? (i := 525) (by decide +kernel), by decide +kernel⟩
theorem w_s_Pc_checkIndex : Cond.static y_Pc_checkIndex ∈ ob_T := List.mem_filter.mpr ⟨List.mem_of_getElem? (i := 524) (by decide +kernel), by decide +kernel⟩
theorem ms_Pc_checkIndex : ob_ms y_Pc_checkIndex cb_Pc_checkIndex 3 (some .int) := ⟨w_c_Pc_checkIndex, w_s_Pc_checkIndex, w_i_Pc, by decide, by decide⟩
theorem w_m_Str_335 : Cond.methodLink "java/lang/String" 335 y_Str_coder ∈ ob_T := List.mem_filter.mpr ⟨List.mem_of_getElem? (i := 501) (by decide +kernel), by decide +kernel⟩
theorem w_m_Str_492 : Cond.methodLink "java/lang/String" 492 y_Str_isLatin1 ∈ ob_T := List.mem_filter.mpr ⟨List.mem_of_getElem? (i := 511) (by decide +kernel), by decide +kernel⟩
theorem w_m_Str_495 : Cond.methodLink "java/lang/String" 495 y_SL_charAt ∈ ob_T := List.mem_filter.mpr ⟨List.mem_of_getElem? (i := 515) (by decide +kernel), by decide +kernel⟩
theorem w_m_SL_9 : Cond.methodLink "java/lang/StringLatin1" 9 y_Str_checkIndex ∈ ob_T := List.mem_filter.mpr ⟨List.mem_of_getElem? (i := 518) (by decide +kernel), by decide +kernel⟩
theorem w_m_Str_1059 : Cond.methodLink "java/lang/String" 1059 y_Pc_checkIndex ∈ ob_T := List.mem_filter.mpr ⟨List.mem_of_getElem? (i := 523) (by decide +kernel), by decide +kernel⟩
theorem w_f_Str_38 : Cond.fieldLink "java/lang/String" 38 "java/lang/String" "COMPACT_STRINGS" "Z" ∈ ob_T := List.mem_filter.mpr ⟨List.mem_of_getElem? (i := 505) (by decide +kernel), by decide +kernel⟩
theorem w_f_Str_1053 : Cond.fieldLink "java/lang/String" 1053 "jdk/internal/util/Preconditions" "SIOOBE_FORMATTER" "Ljava/util/function/BiFunction;" ∈ ob_T := List.mem_filter.mpr ⟨List.mem_of_getElem? (i := 521) (by decide +kernel), by decide +kernel⟩
theorem w_f_Str_9 : Cond.fieldLink "java/lang/String" 9 "java/lang/String" "value" "[B" ∈ ob_T := List.mem_filter.mpr ⟨List.mem_of_getElem? (i := 1337) (by decide +kernel), by decide +kernel⟩
theorem w_f_Str_15 : Cond.fieldLink "java/lang/String" 15 "java/lang/String" "coder" "B" ∈ ob_T := List.mem_filter.mpr ⟨List.mem_of_getElem? (i := 1338) (by decide +kernel), by decide +kernel⟩
theorem d_Str_coder_0 : decode cb_Str_coder 0 = .ok (.getstatic 38, 3) := by decide +kernel
theorem d_Str_coder_3 : decode cb_Str_coder 3 = .ok (.ifCond .eq 10, 3) := by decide +kernel
theorem d_Str_coder_6 : decode cb_Str_coder 6 = .ok (.aload_n 0, 1) := by decide +kernel
theorem d_Str_coder_7 : decode cb_Str_coder 7 = .ok (.getfield 15, 3) := by decide +kernel
theorem d_Str_coder_10 : decode cb_Str_coder 10 = .ok (.goto 4, 3) := by decide +kernel
theorem d_Str_coder_14 : decode cb_Str_coder 14 = .ok (.ireturn, 1) := by decide +kernel
theorem d_Str_isLatin1_0 : decode cb_Str_isLatin1 0 = .ok (.getstatic 38, 3) := by decide +kernel
theorem d_Str_isLatin1_3 : decode cb_Str_isLatin1 3 = .ok (.ifCond .eq 14, 3) := by decide +kernel
theorem d_Str_isLatin1_6 : decode cb_Str_isLatin1 6 = .ok (.aload_n 0, 1) := by decide +kernel
theorem d_Str_isLatin1_7 : decode cb_Str_isLatin1 7 = .ok (.getfield 15, 3) := by decide +kernel
theorem d_Str_isLatin1_10 : decode cb_Str_isLatin1 10 = .ok (.ifCond .ne 7, 3) := by decide +kernel
theorem d_Str_isLatin1_13 : decode cb_Str_isLatin1 13 = .ok (.iconst 1, 1) := by decide +kernel
theorem d_Str_isLatin1_14 : decode cb_Str_isLatin1 14 = .ok (.goto 4, 3) := by decide +kernel
theorem d_Str_isLatin1_18 : decode cb_Str_isLatin1 18 = .ok (.ireturn, 1) := by decide +kernel
theorem d_Str_length_0 : decode cb_Str_length 0 = .ok (.aload_n 0, 1) := by decide +kernel
theorem d_Str_length_1 : decode cb_Str_length 1 = .ok (.getfield 9, 3) := by decide +kernel
theorem d_Str_length_4 : decode cb_Str_length 4 = .ok (.arraylength, 1) := by decide +kernel
theorem d_Str_length_5 : decode cb_Str_length 5 = .ok (.aload_n 0, 1) := by decide +kernel
theorem d_Str_length_6 : decode cb_Str_length 6 = .ok (.invokevirtual 335, 3) := by decide +kernel
theorem d_Str_length_9 : decode cb_Str_length 9 = .ok (.ishr, 1) := by decide +kernel
theorem d_Str_length_10 : decode cb_Str_length 10 = .ok (.ireturn, 1) := by decide +kernel
theorem d_Str_isEmpty_0 : decode cb_Str_isEmpty 0 = .ok (.aload_n 0, 1) := by decide +kernel
theorem d_Str_isEmpty_1 : decode cb_Str_isEmpty 1 = .ok (.getfield 9, 3) := by decide +kernel
theorem d_Str_isEmpty_4 : decode cb_Str_isEmpty 4 = .ok (.arraylength, 1) := by decide +kernel
theorem d_Str_isEmpty_5 : decode cb_Str_isEmpty 5 = .ok (.ifCond .ne 7, 3) := by decide +kernel
theorem d_Str_isEmpty_8 : decode cb_Str_isEmpty 8 = .ok (.iconst 1, 1) := by decide +kernel
theorem d_Str_isEmpty_9 : decode cb_Str_isEmpty 9 = .ok (.goto 4, 3) := by decide +kernel
theorem d_Str_isEmpty_12 : decode cb_Str_isEmpty 12 = .ok (.iconst 0, 1) := by decide +kernel
theorem d_Str_isEmpty_13 : decode cb_Str_isEmpty 13 = .ok (.ireturn, 1) := by decide +kernel
theorem d_Str_charAt_0 : decode cb_Str_charAt 0 = .ok (.aload_n 0, 1) := by decide +kernel
theorem d_Str_charAt_1 : decode cb_Str_charAt 1 = .ok (.invokevirtual 492, 3) := by decide +kernel
theorem d_Str_charAt_4 : decode cb_Str_charAt 4 = .ok (.ifCond .eq 12, 3) := by decide +kernel
theorem d_Str_charAt_7 : decode cb_Str_charAt 7 = .ok (.aload_n 0, 1) := by decide +kernel
theorem d_Str_charAt_8 : decode cb_Str_charAt 8 = .ok (.getfield 9, 3) := by decide +kernel
theorem d_Str_charAt_11 : decode cb_Str_charAt 11 = .ok (.iload_n 1, 1) := by decide +kernel
theorem d_Str_charAt_12 : decode cb_Str_charAt 12 = .ok (.invokestatic 495, 3) := by decide +kernel
theorem d_Str_charAt_15 : decode cb_Str_charAt 15 = .ok (.ireturn, 1) := by decide +kernel
theorem d_SL_charAt_0 : decode cb_SL_charAt 0 = .ok (.iload_n 1, 1) := by decide +kernel
theorem d_SL_charAt_1 : decode cb_SL_charAt 1 = .ok (.aload_n 0, 1) := by decide +kernel
theorem d_SL_charAt_2 : decode cb_SL_charAt 2 = .ok (.arraylength, 1) := by decide +kernel
theorem d_SL_charAt_3 : decode cb_SL_charAt 3 = .ok (.invokestatic 9, 3) := by decide +kernel
theorem d_SL_charAt_6 : decode cb_SL_charAt 6 = .ok (.aload_n 0, 1) := by decide +kernel
theorem d_SL_charAt_7 : decode cb_SL_charAt 7 = .ok (.iload_n 1, 1) := by decide +kernel
theorem d_SL_charAt_8 : decode cb_SL_charAt 8 = .ok (.baload, 1) := by decide +kernel
theorem d_SL_charAt_9 : decode cb_SL_charAt 9 = .ok (.sipush 255, 3) := by decide +kernel
theorem d_SL_charAt_12 : decode cb_SL_charAt 12 = .ok (.iand, 1) := by decide +kernel
theorem d_SL_charAt_13 : decode cb_SL_charAt 13 = .ok (.i2c, 1) := by decide +kernel
theorem d_SL_charAt_14 : decode cb_SL_charAt 14 = .ok (.ireturn, 1) := by decide +kernel
theorem d_Str_checkIndex_0 : decode cb_Str_checkIndex 0 = .ok (.iload_n 0, 1) := by decide +kernel
theorem d_Str_checkIndex_1 : decode cb_Str_checkIndex 1 = .ok (.iload_n 1, 1) := by decide +kernel
theorem d_Str_checkIndex_2 : decode cb_Str_checkIndex 2 = .ok (.getstatic 1053, 3) := by decide +kernel
theorem d_Str_checkIndex_5 : decode cb_Str_checkIndex 5 = .ok (.invokestatic 1059, 3) := by decide +kernel
theorem d_Str_checkIndex_8 : decode cb_Str_checkIndex 8 = .ok (.pop, 1) := by decide +kernel
theorem d_Str_checkIndex_9 : decode cb_Str_checkIndex 9 = .ok (.return_, 1) := by decide +kernel
theorem d_Pc_checkIndex_0 : decode cb_Pc_checkIndex 0 = .ok (.iload_n 0, 1) := by decide +kernel
theorem d_Pc_checkIndex_1 : decode cb_Pc_checkIndex 1 = .ok (.ifCond .lt 8, 3) := by decide +kernel
theorem d_Pc_checkIndex_4 : decode cb_Pc_checkIndex 4 = .ok (.iload_n 0, 1) := by decide +kernel
theorem d_Pc_checkIndex_5 : decode cb_Pc_checkIndex 5 = .ok (.iload_n 1, 1) := by decide +kernel
theorem d_Pc_checkIndex_6 : decode cb_Pc_checkIndex 6 = .ok (.if_icmp .lt 10, 3) := by decide +kernel
theorem d_Pc_checkIndex_16 : decode cb_Pc_checkIndex 16 = .ok (.iload_n 0, 1) := by decide +kernel
theorem d_Pc_checkIndex_17 : decode cb_Pc_checkIndex 17 = .ok (.ireturn, 1) := by decide +kernel
noncomputable def X_Str_coder (i : Nat) (t : ob_S) : Option (Int32 × ob_S) := if i < 6 then some (0, t) else none
noncomputable def X_Str_isLatin1 (i : Nat) (t : ob_S) : Option (Int32 × ob_S) := if i < 6 then some (1, t) else none
noncomputable def X_Str_length (i : Nat) (t : ob_S) : Option (Int32 × ob_S) := if i < 6 then some (Int32.ofNat (ob_sl.getD i 0), t) else none
noncomputable def X_Str_isEmpty (i : Nat) (t : ob_S) : Option (Int32 × ob_S) := if i < 6 then some (if ob_sl.getD i 0 = 0 then 1 else 0, t) else none
/-- is it a place of text i? -/
def ob_sp (i : Nat) (k : Int32) : Prop := i < 6 ∧ ¬ (k < 0 ∨ ob_sl.getD i 0 ≤ k.toNatClampNeg)
noncomputable def X_Str_charAt (i : Nat) (k : Int32) (t : ob_S) : Option (Int32 × ob_S) := if i < 6 ∧ ¬ (k < 0 ∨ ob_sl.getD i 0 ≤ k.toNatClampNeg) then some ((ob_sb.getD i []).getD k.toNatClampNeg 0, t) else none
noncomputable def X_Str_ck (k n : Int32) (t : ob_S) : Option ob_S := if ¬ k < 0 ∧ k < n then some t else none
noncomputable def X_Pc_ck (k n : Int32) (t : ob_S) : Option (Int32 × ob_S) := if ¬ k < 0 ∧ k < n then some (k, t) else none
theorem g_Str_length (i : Nat) {t : ob_S} {out : Int32 × ob_S} (h : X_Str_length i t = some out) : i < 6 := by
  unfold X_Str_length at h
  by_cases q : i < 6
  · exact q
  · rw [if_neg q] at h; cases h
theorem g_Str_isEmpty (i : Nat) {t : ob_S} {out : Int32 × ob_S} (h : X_Str_isEmpty i t = some out) : i < 6 := by
  unfold X_Str_isEmpty at h
  by_cases q : i < 6
  · exact q
  · rw [if_neg q] at h; cases h
theorem g_Str_charAt (i : Nat) (k : Int32) {t : ob_S} {out : Int32 × ob_S} (h : X_Str_charAt i k t = some out) : i < 6 := by
  unfold X_Str_charAt at h
  by_cases q : i < 6 ∧ ¬ (k < 0 ∨ ob_sl.getD i 0 ≤ k.toNatClampNeg)
  · exact q.1
  · rw [if_neg q] at h; cases h
theorem g_Str_coder (i : Nat) {t : ob_S} {out : Int32 × ob_S} (h : X_Str_coder i t = some out) : i < 6 := by
  unfold X_Str_coder at h
  by_cases q : i < 6
  · exact q
  · rw [if_neg q] at h; cases h
theorem g_Str_isLatin1 (i : Nat) {t : ob_S} {out : Int32 × ob_S} (h : X_Str_isLatin1 i t = some out) : i < 6 := by
  unfold X_Str_isLatin1 at h
  by_cases q : i < 6
  · exact q
  · rw [if_neg q] at h; cases h
theorem ob_sh0 : ∀ i, i < 6 → Int32.ofNat (ob_sl.getD i 0) >>> ((0 : Int32) &&& 31) = Int32.ofNat (ob_sl.getD i 0) := by decide +kernel
theorem ob_e0 : ∀ i, i < 6 → (¬ Int32.ofNat (ob_sl.getD i 0) = 0 ↔ ¬ ob_sl.getD i 0 = 0) := by decide +kernel
theorem ob_cb : ∀ i, i < 6 → ∀ k, k < ob_sl.getD i 0 → ((((ob_sb.getD i []).getD k 0 &&& 255).toUInt32 % 65536).toInt32 = (ob_sb.getD i []).getD k 0 ∧ narrow .char (.int ((ob_sb.getD i []).getD k 0)) = .int ((ob_sb.getD i []).getD k 0)) := by decide +kernel
theorem ob_kl : ∀ i, i < 6 → ob_sl.getD i 0 < 3 := by decide +kernel
section STR
variable {l : Launch} {b : Nat} {D : va_G} {cA : Nat → ClassId} {adK adV : Nat → Nat}
set_option maxHeartbeats 4000000 in
theorem c_Str_coder (v0 : Nat) {t : ob_S} {out : Int32 × ob_S} (h : X_Str_coder v0 t = some out) : Met l y_Str_coder (Cond.code y_Str_coder cb_Str_coder 1 (some .byte) :: ob_T) { frames := 0, cells := 0, slots := 0, locals := 0 } (ob_Pre b D cA adK adV [.ref (adK v0)] t) (ob_Qi b D cA out) 0 0 (ob_A b) := by
  have hi := g_Str_coder v0 h
  rw [X_Str_coder, if_pos hi] at h
  refine ob_met (by decide) (Nat.le_of_ble_eq_true rfl) ?_
  intro p e R s m args below meth c ls Cx hP hS hl
  have hl : lv_has ls 1 [(0, .ref (adK v0))] := hl
  have hx := Cx.1.1
  have hb := Cx.1.2.1
  have hts := Cx.1.2.2.2.2
  refine va_gets hx hb Cx.2.1.2.2.2.2.1 hS Cx.1.2.2.2.1 (hts _ w_f_Str_38) (fun _ h9 => h9) d_Str_coder_0 ?_
  refine lv_if_eq (tgt := 13) hx hb d_Str_coder_3 (by decide) (fun hq => absurd hq (by decide)) (fun hq => ?_)
  refine lv_aload_n hx hb d_Str_coder_6 rfl (lv_at hl 0 rfl) ?_
  refine vk_getf hx hb (Cx.2.1.2.2.2.1.1 v0 hi).2.1 hS Cx.1.2.2.2.1 (hts _ w_f_Str_15) (fun _ h9 => h9) d_Str_coder_7 ?_
  refine lv_goto (tgt := 14) hx hb d_Str_coder_10 (by decide) ?_
  exact ob_nret Cx hP hS d_Str_coder_14 (by decide) h
set_option maxHeartbeats 4000000 in
theorem c_Str_isLatin1 (v0 : Nat) {t : ob_S} {out : Int32 × ob_S} (h : X_Str_isLatin1 v0 t = some out) : Met l y_Str_isLatin1 (Cond.code y_Str_isLatin1 cb_Str_isLatin1 1 (some .boolean) :: ob_T) { frames := 0, cells := 0, slots := 0, locals := 0 } (ob_Pre b D cA adK adV [.ref (adK v0)] t) (ob_Qi b D cA out) 0 0 (ob_A b) := by
  have hi := g_Str_isLatin1 v0 h
  rw [X_Str_isLatin1, if_pos hi] at h
  refine ob_met (by decide) (Nat.le_of_ble_eq_true rfl) ?_
  intro p e R s m args below meth c ls Cx hP hS hl
  have hl : lv_has ls 1 [(0, .ref (adK v0))] := hl
  have hx := Cx.1.1
  have hb := Cx.1.2.1
  have hts := Cx.1.2.2.2.2
  refine va_gets hx hb Cx.2.1.2.2.2.2.1 hS Cx.1.2.2.2.1 (hts _ w_f_Str_38) (fun _ h9 => h9) d_Str_isLatin1_0 ?_
  refine lv_if_eq (tgt := 17) hx hb d_Str_isLatin1_3 (by decide) (fun hq => absurd hq (by decide)) (fun hq => ?_)
  refine lv_aload_n hx hb d_Str_isLatin1_6 rfl (lv_at hl 0 rfl) ?_
  refine vk_getf hx hb (Cx.2.1.2.2.2.1.1 v0 hi).2.1 hS Cx.1.2.2.2.1 (hts _ w_f_Str_15) (fun _ h9 => h9) d_Str_isLatin1_7 ?_
  refine lv_if_ne (tgt := 17) hx hb d_Str_isLatin1_10 (by decide) (fun hq => absurd rfl hq) (fun hq => ?_)
  refine lv_iconst (v := 1) hx hb d_Str_isLatin1_13 (by decide) ?_
  refine lv_goto (tgt := 18) hx hb d_Str_isLatin1_14 (by decide) ?_
  exact ob_nret Cx hP hS d_Str_isLatin1_18 (by decide) h
set_option maxHeartbeats 4000000 in
theorem c_Str_length (v0 : Nat) {t : ob_S} {out : Int32 × ob_S} (h : X_Str_length v0 t = some out) : Met l y_Str_length (Cond.code y_Str_length cb_Str_length 1 (some .int) :: ob_T) { frames := 1, cells := 0, slots := 0, locals := 20 } (ob_Pre b D cA adK adV [.ref (adK v0)] t) (ob_Qi b D cA out) 0 0 (ob_A b) := by
  have hi := g_Str_length v0 h
  rw [X_Str_length, if_pos hi] at h
  refine ob_met (by decide) (Nat.le_of_ble_eq_true rfl) ?_
  intro p e R s m args below meth c ls Cx hP hS hl
  have hl : lv_has ls 1 [(0, .ref (adK v0))] := hl
  have hx := Cx.1.1
  have hb := Cx.1.2.1
  have hts := Cx.1.2.2.2.2
  refine lv_aload_n hx hb d_Str_length_0 rfl (lv_at hl 0 rfl) ?_
  refine vk_getf hx hb (Cx.2.1.2.2.2.1.1 v0 hi).2.2.1 hS Cx.1.2.2.2.1 (hts _ w_f_Str_9) (fun _ h9 => h9) d_Str_length_1 ?_
  refine va_tlen hx hb (Cx.2.1.2.2.2.1.1 v0 hi).2.2.2 hS rfl d_Str_length_4 ?_
  refine lv_aload_n hx hb d_Str_length_5 rfl (lv_at hl 0 rfl) ?_
  refine ob_cTi (oX := X_Str_coder v0 t) (f := fun x t => some (x, t)) (out := (0, t)) (i := v0) (nA := 0) (As := []) (rest := [.int (Int32.ofNat (ob_sl.getD v0 0))]) Cx hl.1 hP hS (fun o ho => c_Str_coder v0 ho) (fun o ho => hi) mv_Str_coder w_m_Str_335 rfl (by decide +kernel) ⟨rfl, rfl⟩ ⟨by decide, by decide⟩ (Nat.le_of_ble_eq_true rfl) rfl d_Str_length_6 (by rw [X_Str_coder, if_pos hi]; rfl) (fun x t H locs hq hP hS => ?_)
  cases hq
  refine lv_ishr hx hb d_Str_length_9 ?_
  rw [ob_sh0 v0 hi]
  exact ob_iret Cx hP hS d_Str_length_10 h
set_option maxHeartbeats 4000000 in
theorem c_Str_isEmpty (v0 : Nat) {t : ob_S} {out : Int32 × ob_S} (h : X_Str_isEmpty v0 t = some out) : Met l y_Str_isEmpty (Cond.code y_Str_isEmpty cb_Str_isEmpty 1 (some .boolean) :: ob_T) { frames := 0, cells := 0, slots := 0, locals := 0 } (ob_Pre b D cA adK adV [.ref (adK v0)] t) (ob_Qi b D cA out) 0 0 (ob_A b) := by
  have hi := g_Str_isEmpty v0 h
  rw [X_Str_isEmpty, if_pos hi] at h
  refine ob_met (by decide) (Nat.le_of_ble_eq_true rfl) ?_
  intro p e R s m args below meth c ls Cx hP hS hl
  have hl : lv_has ls 1 [(0, .ref (adK v0))] := hl
  have hx := Cx.1.1
  have hb := Cx.1.2.1
  have hts := Cx.1.2.2.2.2
  refine lv_aload_n hx hb d_Str_isEmpty_0 rfl (lv_at hl 0 rfl) ?_
  refine vk_getf hx hb (Cx.2.1.2.2.2.1.1 v0 hi).2.2.1 hS Cx.1.2.2.2.1 (hts _ w_f_Str_9) (fun _ h9 => h9) d_Str_isEmpty_1 ?_
  refine va_tlen hx hb (Cx.2.1.2.2.2.1.1 v0 hi).2.2.2 hS rfl d_Str_isEmpty_4 ?_
  refine lv_if_ne (tgt := 12) hx hb d_Str_isEmpty_5 (by decide) (fun hq => ?_) (fun hq => ?_)
  · refine lv_iconst (v := 0) hx hb d_Str_isEmpty_12 (by decide) ?_
    rw [if_neg ((ob_e0 v0 hi).mp hq)] at h
    exact ob_nret Cx hP hS d_Str_isEmpty_13 (by decide) h
  · refine lv_iconst (v := 1) hx hb d_Str_isEmpty_8 (by decide) ?_
    refine lv_goto (tgt := 13) hx hb d_Str_isEmpty_9 (by decide) ?_
    rw [if_pos (Decidable.not_not.mp (fun z => (ob_e0 v0 hi).mpr z hq))] at h
    exact ob_nret Cx hP hS d_Str_isEmpty_13 (by decide) h
set_option maxHeartbeats 4000000 in
theorem c_Pc_ck (k n : Int32) (v : Value) {t : ob_S} {out : Int32 × ob_S} (hv : v = .null ∨ ∃ a : Nat, v = .ref a) (h : X_Pc_ck k n t = some out) : Met l y_Pc_checkIndex (Cond.code y_Pc_checkIndex cb_Pc_checkIndex 3 (some .int) :: ob_T) { frames := 0, cells := 0, slots := 0, locals := 0 } (ob_Pre b D cA adK adV [.int k, .int n, v] t) (ob_Qi b D cA out) 0 0 (ob_A b) := by
  by_cases hc : ¬ k < 0 ∧ k < n
  · rw [X_Pc_ck, if_pos hc] at h
    have hsl : (lg_sl [.int k, .int n, v]).length ≤ 3 := by
      rcases hv with rfl | ⟨a, rfl⟩ <;> exact Nat.le_of_ble_eq_true rfl
    refine ob_met (by decide) hsl ?_
    intro p e R s m args below meth c ls Cx hP hS hl
    have hl : lv_has ls 3 [(0, .int k), (1, .int n)] := by
      rcases hv with rfl | ⟨a, rfl⟩ <;> exact lv_sub hl [0, 1] rfl
    have hx := Cx.1.1
    have hb := Cx.1.2.1
    refine lv_iload_n hx hb d_Pc_checkIndex_0 rfl (lv_at hl 0 rfl) ?_
    refine lv_if_lt (tgt := 9) hx hb d_Pc_checkIndex_1 (by decide) (fun hq => absurd hq hc.1) (fun hq => ?_)
    refine lv_iload_n hx hb d_Pc_checkIndex_4 rfl (lv_at hl 0 rfl) ?_
    refine lv_iload_n hx hb d_Pc_checkIndex_5 rfl (lv_at hl 1 rfl) ?_
    refine lv_icmp_lt (tgt := 16) hx hb d_Pc_checkIndex_6 (by decide) (fun hq => ?_) (fun hq => absurd hc.2 hq)
    refine lv_iload_n hx hb d_Pc_checkIndex_16 rfl (lv_at hl 0 rfl) ?_
    exact ob_iret Cx hP hS d_Pc_checkIndex_17 h
  · rw [X_Pc_ck, if_neg hc] at h
    cases h
set_option maxHeartbeats 4000000 in
theorem c_Str_ck (k n : Int32) {t : ob_S} {out : ob_S} (h : X_Str_ck k n t = some out) : Met l y_Str_checkIndex (Cond.code y_Str_checkIndex cb_Str_checkIndex 2 none :: ob_T) { frames := 1, cells := 0, slots := 0, locals := 22 } (ob_Pre b D cA adK adV [.int k, .int n] t) (ob_Qv b D cA out) 0 0 (ob_A b) := by
  by_cases hc : ¬ k < 0 ∧ k < n
  · rw [X_Str_ck, if_pos hc] at h
    refine ob_met (by decide) (Nat.le_of_ble_eq_true rfl) ?_
    intro p e R s m args below meth c ls Cx hP hS hl
    have hl : lv_has ls 2 [(0, .int k), (1, .int n)] := hl
    have hx := Cx.1.1
    have hb := Cx.1.2.1
    have hts := Cx.1.2.2.2.2
    refine lv_iload_n hx hb d_Str_checkIndex_0 rfl (lv_at hl 0 rfl) ?_
    refine lv_iload_n hx hb d_Str_checkIndex_1 rfl (lv_at hl 1 rfl) ?_
    obtain ⟨v, hz, hv⟩ := Cx.2.1.2.2.2.2.2.2.2.2
    refine va_gets hx hb hz hS Cx.1.2.2.2.1 (hts _ w_f_Str_1053) (fun _ h9 => h9) d_Str_checkIndex_2 ?_
    refine ob_cSi (oX := X_Pc_ck k n t) (f := fun x t => some (x, t)) (out := (k, t)) (nA := 3) (As := [.int k, .int n, v]) (rest := []) Cx hl.1 hP hS (fun o ho => c_Pc_ck k n v hv ho) ms_Pc_checkIndex w_m_Str_1059 rfl (by decide +kernel) ⟨rfl, rfl⟩ ⟨by decide, by decide⟩ (Nat.le_of_ble_eq_true rfl) rfl d_Str_checkIndex_5 (by rw [X_Pc_ck, if_pos hc]; rfl) (fun x t H locs hq hP hS => ?_)
    cases hq
    refine lv_pop hx hb d_Str_checkIndex_8 rfl ?_
    exact ob_vret Cx hP hS d_Str_checkIndex_9 h
  · rw [X_Str_ck, if_neg hc] at h
    cases h
set_option maxHeartbeats 4000000 in
theorem c_SL_charAt (v0 : Nat) (k : Int32) {t : ob_S} {out : Int32 × ob_S} (h : X_Str_charAt v0 k t = some out) : Met l y_SL_charAt (Cond.code y_SL_charAt cb_SL_charAt 2 (some .char) :: ob_T) { frames := 2, cells := 0, slots := 0, locals := 43 } (ob_Pre b D cA adK adV [.ref (adV v0), .int k] t) (ob_Qi b D cA out) 0 0 (ob_A b) := by
  by_cases hc : v0 < 6 ∧ ¬ (k < 0 ∨ ob_sl.getD v0 0 ≤ k.toNatClampNeg)
  · rw [X_Str_charAt, if_pos hc] at h
    obtain ⟨hi, hk⟩ := hc
    obtain ⟨j, hj, rfl⟩ := nI_of (fun q => hk (Or.inl q))
    have hjl : j < ob_sl.getD v0 0 := Nat.not_le.mp (fun q => hk (Or.inr (by rw [nI_clamp hj]; exact q)))
    have hl3 := ob_kl v0 hi
    rw [nI_clamp hj] at h
    obtain ⟨e1, e2⟩ := ob_cb v0 hi j hjl
    refine ob_met (by decide) (Nat.le_of_ble_eq_true rfl) ?_
    intro p e R s m args below meth c ls Cx hP hS hl
    have hl : lv_has ls 2 [(0, .ref (adV v0)), (1, .int (nI j))] := hl
    have hx := Cx.1.1
    have hb := Cx.1.2.1
    have hts := Cx.1.2.2.2.2
    refine lv_iload_n hx hb d_SL_charAt_0 rfl (lv_at hl 1 rfl) ?_
    refine lv_aload_n hx hb d_SL_charAt_1 rfl (lv_at hl 0 rfl) ?_
    refine va_tlen hx hb (Cx.2.1.2.2.2.1.1 v0 hi).2.2.2 hS rfl d_SL_charAt_2 ?_
    refine ob_cSv (oX := X_Str_ck (nI j) (Int32.ofNat (ob_sl.getD v0 0)) t) (f := some) (out := t) (nA := 2) (As := [.int (nI j), .int (Int32.ofNat (ob_sl.getD v0 0))]) (rest := []) Cx hl.1 hP hS (fun o ho => c_Str_ck _ _ ho) ms_Str_checkIndex w_m_SL_9 rfl (by decide +kernel) ⟨rfl, rfl⟩ ⟨by decide, by decide⟩ (Nat.le_of_ble_eq_true rfl) rfl d_SL_charAt_3 (by rw [X_Str_ck, if_pos ⟨nI_pos hj, nI_lt hjl (by omega)⟩]; rfl) (fun t H locs hq hP hS => ?_)
    cases hq
    refine lv_aload_n hx hb d_SL_charAt_6 rfl (lv_at hl 0 rfl) ?_
    refine lv_iload_n hx hb d_SL_charAt_7 rfl (lv_at hl 1 rfl) ?_
    refine va_tb (v := .int ((ob_sb.getD v0 []).getD j 0)) hx hb (Cx.2.1.2.2.2.1.1 v0 hi).2.2.2 hS (nI_in hjl (by omega)) (by rw [nI_clamp hj]) d_SL_charAt_8 ?_
    refine lv_sipush (v := 255) hx hb d_SL_charAt_9 (by decide) ?_
    refine lv_iand hx hb d_SL_charAt_12 ?_
    refine lv_i2c (v := (ob_sb.getD v0 []).getD j 0) hx hb d_SL_charAt_13 e1 ?_
    exact ob_nret Cx hP hS d_SL_charAt_14 e2 h
  · rw [X_Str_charAt, if_neg hc] at h
    cases h
set_option maxHeartbeats 4000000 in
theorem c_Str_charAt (v0 : Nat) (k : Int32) {t : ob_S} {out : Int32 × ob_S} (h : X_Str_charAt v0 k t = some out) : Met l y_Str_charAt (Cond.code y_Str_charAt cb_Str_charAt 2 (some .char) :: ob_T) { frames := 3, cells := 0, slots := 0, locals := 64 } (ob_Pre b D cA adK adV [.ref (adK v0), .int k] t) (ob_Qi b D cA out) 0 0 (ob_A b) := by
  by_cases hc : v0 < 6 ∧ ¬ (k < 0 ∨ ob_sl.getD v0 0 ≤ k.toNatClampNeg)
  · have hh := h
    rw [X_Str_charAt, if_pos hc] at h
    obtain ⟨hi, hk⟩ := hc
    obtain ⟨j, hj, rfl⟩ := nI_of (fun q => hk (Or.inl q))
    have hjl : j < ob_sl.getD v0 0 := Nat.not_le.mp (fun q => hk (Or.inr (by rw [nI_clamp hj]; exact q)))
    obtain ⟨e1, e2⟩ := ob_cb v0 hi j hjl
    refine ob_met (by decide) (Nat.le_of_ble_eq_true rfl) ?_
    intro p e R s m args below meth c ls Cx hP hS hl
    have hl : lv_has ls 2 [(0, .ref (adK v0)), (1, .int (nI j))] := hl
    have hx := Cx.1.1
    have hb := Cx.1.2.1
    have hts := Cx.1.2.2.2.2
    refine lv_aload_n hx hb d_Str_charAt_0 rfl (lv_at hl 0 rfl) ?_
    refine ob_cTi (oX := X_Str_isLatin1 v0 t) (f := fun x t => some (x, t)) (out := (1, t)) (i := v0) (nA := 0) (As := []) (rest := []) Cx hl.1 hP hS (fun o ho => c_Str_isLatin1 v0 ho) (fun o ho => hi) mv_Str_isLatin1 w_m_Str_492 rfl (by decide +kernel) ⟨rfl, rfl⟩ ⟨by decide, by decide⟩ (Nat.le_of_ble_eq_true rfl) rfl d_Str_charAt_1 (by rw [X_Str_isLatin1, if_pos hi]; rfl) (fun x t H locs hq hP hS => ?_)
    cases hq
    refine lv_if_eq (tgt := 16) hx hb d_Str_charAt_4 (by decide) (fun hq => absurd hq (by decide)) (fun hq => ?_)
    refine lv_aload_n hx hb d_Str_charAt_7 rfl (lv_at hl 0 rfl) ?_
    refine vk_getf hx hb (Cx.2.1.2.2.2.1.1 v0 hi).2.2.1 hS Cx.1.2.2.2.1 (hts _ w_f_Str_9) (fun _ h9 => h9) d_Str_charAt_8 ?_
    refine lv_iload_n hx hb d_Str_charAt_11 rfl (lv_at hl 1 rfl) ?_
    refine ob_cSi (oX := X_Str_charAt v0 (nI j) t) (f := fun x t => some (x, t)) (out := out) (nA := 2) (As := [.ref (adV v0), .int (nI j)]) (rest := []) Cx hl.1 hP hS (fun o ho => c_SL_charAt v0 (nI j) ho) ms_SL_charAt w_m_Str_495 rfl (by decide +kernel) ⟨rfl, rfl⟩ ⟨by decide, by decide⟩ (Nat.le_of_ble_eq_true rfl) rfl d_Str_charAt_12 (by rw [hh]; rfl) (fun x t2 H locs hq hP hS => ?_)
    rw [nI_clamp hj] at h
    cases h
    cases hq
    exact ob_nret Cx hP hS d_Str_charAt_15 e2 rfl
  · rw [X_Str_charAt, if_neg hc] at h
    cases h
end STR

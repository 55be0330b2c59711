def R_law : String := "ObservedBlocksLaw"
def lw_P (b : Addr) (xs : List Int32) (args : Array Value) (s : State) : Prop := args = #[.ref b] ∧ s.IntsAt b xs ∧ xs.length ≤ 3072 ∧ (Jvm.Cond.and given_1 narrow_1).before args s = true
def lw_Q (_ : Array Value) (s : State) (o : Outcome) (t : State) : Prop := o = .returned (some (.int 1)) ∧ Framed s o t [] 600000 7302250
def lw_Z (below : List Frame) (a : Array Value) (s : State) : State → Prop := fun t => ∃ o, t.status = .running ∧ Ended t below o ∧ lw_Q a s o t
theorem lw_ret {p : Program} {l : Launch} {e : Env} {s : State} {m : MethodId} {below : List Frame} {meth : Method} {c : Code} {b : Nat} (hx : p.tables.exec = Jvm.exec) (hb : c.code = code) (hr : meth.sig.returnType = ret) (hlocks : meth.locks = false) {pc : Nat} {H : Heap} {ls : Array Slot} (hdg : decode code pc = .ok (.ireturn, 1)) : W p l e room_1 s m #[Value.ref b] below meth c H [] 600000 7302250 (lw_Z below #[Value.ref b] s) (F0 m pc ls [.int 1]) := by
  intro T hT X
  obtain ⟨fs, hret, hrun, hended, hW, hframe⟩ := X.leave (v := some (.int 1)) (hlocks := hlocks) (fun h => by rw [hr] at h; cases h)
  have hmeth' : T.vm.method? m = some meth := X.method'
  refine ⟨T.setFrames fs, ?_, .returned (some (.int 1)), hrun, hended, rfl, ⟨_, rfl⟩, hW, hframe⟩
  jvm_step X.here [X.here.top, hx, hb, hdg, hmeth', hr, ret, narrow_b1]
  (try refine ⟨rfl, ?_⟩); (try refine ⟨rfl, ?_⟩)
  first | (intro acts; rw [hret _ acts rfl rfl rfl]) | rw [hret _ _ rfl rfl rfl]
  exact Steps.refl _
def lw_At (p : Program) (s : State) (m : MethodId) (meth : Method) (c : Code) (b L : Nat) (xs : Nat → Int32) : Prop :=
  p.tables.exec = Jvm.exec ∧ c.code = code ∧ meth.sig.returnType = ret ∧ c.maxLocals = 4 ∧ s.vm.findClass R_law = some m.cls ∧ (∀ w ∈ lw_tbl, w.before #[Value.ref b] s = true) ∧ va_X b L xs s s.heap ∧ b < s.heap.size ∧ meth.locks = false ∧ (Jvm.Cond.and given_1 narrow_1).before #[Value.ref b] s = true

set_option maxHeartbeats 4000000 in
theorem law_case_0 {p : Program} {l : Launch} {e : Env} {s : State} {m : MethodId} {below : List Frame} {meth : Method} {c : Code} {bs L : Nat} {xs : Nat → Int32} {b : Nat} {D : va_G} {cA : Nat → ClassId} {adK adV : Nat → Nat} {cells slots : Nat} {Q : State → Prop} {R1 R2 : ob_S → Prop} {t : ob_S} {H : Heap} {locs : List Loc} {ls : Array Slot} {v3 : Int32} (Cx : ob_C p room_1 s m #[Value.ref bs] meth c code 4 "ObservedBlocksLaw" (some .boolean) b D cA adK adV 9 204) (hX : va_X bs L xs s s.heap) (hbl : bs < s.heap.size) (hbA : ¬ ob_A b bs) (hcs : cells ≤ room_1.cells ∧ slots ≤ room_1.slots) (h0 : vp_in v3 L) (h1 : vp_in (v3 + 1) L) (h2 : vp_in (v3 + 2) L) (h3 : vp_in (v3 + 3) L) (h4 : vp_in (v3 + 4) L) (h5 : vp_in (v3 + 5) L) (hP : ob_H b D cA t H) (hS : va_S (ob_A b) s.heap H locs) (hl : lv_has ls 4 [(0, .ref bs), (1, .ref (b + 0)), (2, .ref (b + 103)), (3, .int v3)]) (hs : ∀ d : Int32, (d = 0 ∨ d = 1) → ∃ (r : Int32) (t1 t2 : ob_S), X_Ob_get 0 (xs (v3 + 1).toNatClampNeg) (xs (v3 + 2).toNatClampNeg) (xs (v3 + 3).toNatClampNeg) d t = some (r, t1) ∧ X_Mo_get 103 (xs (v3 + 1).toNatClampNeg) (xs (v3 + 2).toNatClampNeg) (xs (v3 + 3).toNatClampNeg) d t1 = some (r, t2) ∧ R2 t2) (kk : ∀ (t2 : ob_S) (H : Heap) (locs : List Loc), R2 t2 → ob_H b D cA t2 H → va_S (ob_A b) s.heap H locs → W p l e room_1 s m #[Value.ref bs] below meth c H locs cells slots Q (F0 m 599 ls [])) : W p l e room_1 s m #[Value.ref bs] below meth c H locs cells slots Q (F0 m 108 ls []) := by
  have hx := Cx.1.1
  have hb := Cx.1.2.1
  refine lv_aload_n hx hb d_law_108 rfl (lv_at hl 1 rfl) ?_
  refine lv_aload_n hx hb d_law_109 rfl (lv_at hl 0 rfl) ?_
  refine lv_iload_n hx hb d_law_110 rfl (lv_at hl 3 rfl) ?_
  refine lv_iconst (v := 1) hx hb d_law_111 (by decide) ?_
  refine lv_iadd hx hb d_law_112 ?_
  refine va_sld hx hb hX hbl hbA hS h1 d_law_113 ?_
  refine lv_aload_n hx hb d_law_114 rfl (lv_at hl 0 rfl) ?_
  refine lv_iload_n hx hb d_law_115 rfl (lv_at hl 3 rfl) ?_
  refine lv_iconst (v := 2) hx hb d_law_116 (by decide) ?_
  refine lv_iadd hx hb d_law_117 ?_
  refine va_sld hx hb hX hbl hbA hS h2 d_law_118 ?_
  refine lv_aload_n hx hb d_law_119 rfl (lv_at hl 0 rfl) ?_
  refine lv_iload_n hx hb d_law_120 rfl (lv_at hl 3 rfl) ?_
  refine lv_iconst (v := 3) hx hb d_law_121 (by decide) ?_
  refine lv_iadd hx hb d_law_122 ?_
  refine va_sld hx hb hX hbl hbA hS h3 d_law_123 ?_
  refine lv_aload_n hx hb d_law_124 rfl (lv_at hl 0 rfl) ?_
  refine lv_iload_n hx hb d_law_125 rfl (lv_at hl 3 rfl) ?_
  refine lv_iconst (v := 4) hx hb d_law_126 (by decide) ?_
  refine lv_iadd hx hb d_law_127 ?_
  refine va_sld hx hb hX hbl hbA hS h4 d_law_128 ?_
  refine lv_if_eq (tgt := 136) hx hb d_law_129 (by decide) (fun hq => ?_) (fun hq => ?_)
  · refine lv_iconst (v := 0) hx hb d_law_136 (by decide) ?_
    obtain ⟨a0, t1, t2, e1, e2, hr⟩ := hs (0 : Int32) (by decide)
    refine ob_lVi (nA := 4) (As := [.int (xs (v3 + 1).toNatClampNeg), .int (xs (v3 + 2).toNatClampNeg), .int (xs (v3 + 3).toNatClampNeg), .int (0 : Int32)]) (rest := []) Cx hl.1 hP hS (c_Ob_get 0 (xs (v3 + 1).toNatClampNeg) (xs (v3 + 2).toNatClampNeg) (xs (v3 + 3).toNatClampNeg) (0 : Int32) e1) (g_Ob_get 0 (xs (v3 + 1).toNatClampNeg) (xs (v3 + 2).toNatClampNeg) (xs (v3 + 3).toNatClampNeg) (0 : Int32) e1) (by decide) (rfl : ob_cl[10]? = _) mv_Ob_get w_m_Law_13 rfl (by decide +kernel) ⟨rfl, rfl⟩ ⟨by decide, by decide⟩ hcs (Nat.le_of_ble_eq_true rfl) rfl d_law_137 (fun H locs hP hS => ?_)
    refine lv_aload_n hx hb d_law_140 rfl (lv_at hl 2 rfl) ?_
    refine lv_aload_n hx hb d_law_141 rfl (lv_at hl 0 rfl) ?_
    refine lv_iload_n hx hb d_law_142 rfl (lv_at hl 3 rfl) ?_
    refine lv_iconst (v := 1) hx hb d_law_143 (by decide) ?_
    refine lv_iadd hx hb d_law_144 ?_
    refine va_sld hx hb hX hbl hbA hS h1 d_law_145 ?_
    refine lv_aload_n hx hb d_law_146 rfl (lv_at hl 0 rfl) ?_
    refine lv_iload_n hx hb d_law_147 rfl (lv_at hl 3 rfl) ?_
    refine lv_iconst (v := 2) hx hb d_law_148 (by decide) ?_
    refine lv_iadd hx hb d_law_149 ?_
    refine va_sld hx hb hX hbl hbA hS h2 d_law_150 ?_
    refine lv_aload_n hx hb d_law_151 rfl (lv_at hl 0 rfl) ?_
    refine lv_iload_n hx hb d_law_152 rfl (lv_at hl 3 rfl) ?_
    refine lv_iconst (v := 3) hx hb d_law_153 (by decide) ?_
    refine lv_iadd hx hb d_law_154 ?_
    refine va_sld hx hb hX hbl hbA hS h3 d_law_155 ?_
    refine lv_aload_n hx hb d_law_156 rfl (lv_at hl 0 rfl) ?_
    refine lv_iload_n hx hb d_law_157 rfl (lv_at hl 3 rfl) ?_
    refine lv_iconst (v := 4) hx hb d_law_158 (by decide) ?_
    refine lv_iadd hx hb d_law_159 ?_
    refine va_sld hx hb hX hbl hbA hS h4 d_law_160 ?_
    refine lv_if_eq (tgt := 168) hx hb d_law_161 (by decide) (fun hq2 => ?_) (fun hq2 => absurd hq hq2)
    refine lv_iconst (v := 0) hx hb d_law_168 (by decide) ?_
    refine ob_lVi (nA := 4) (As := [.int (xs (v3 + 1).toNatClampNeg), .int (xs (v3 + 2).toNatClampNeg), .int (xs (v3 + 3).toNatClampNeg), .int (0 : Int32)]) (rest := [.int a0]) Cx hl.1 hP hS (c_Mo_get 103 (xs (v3 + 1).toNatClampNeg) (xs (v3 + 2).toNatClampNeg) (xs (v3 + 3).toNatClampNeg) (0 : Int32) e2) (g_Mo_get 103 (xs (v3 + 1).toNatClampNeg) (xs (v3 + 2).toNatClampNeg) (xs (v3 + 3).toNatClampNeg) (0 : Int32) e2) (by decide) (rfl : ob_cl[11]? = _) mv_Mo_get w_m_Law_17 rfl (by decide +kernel) ⟨rfl, rfl⟩ ⟨by decide, by decide⟩ hcs (Nat.le_of_ble_eq_true rfl) rfl d_law_169 (fun H locs hP hS => ?_)
    refine lv_icmp_eq (tgt := 599) hx hb d_law_172 (by decide) (fun _ => ?_) (fun hq9 => absurd rfl hq9)
    exact kk _ _ _ hr hP hS
  · refine lv_iconst (v := 1) hx hb d_law_132 (by decide) ?_
    refine lv_goto (tgt := 137) hx hb d_law_133 (by decide) ?_
    obtain ⟨a0, t1, t2, e1, e2, hr⟩ := hs (1 : Int32) (by decide)
    refine ob_lVi (nA := 4) (As := [.int (xs (v3 + 1).toNatClampNeg), .int (xs (v3 + 2).toNatClampNeg), .int (xs (v3 + 3).toNatClampNeg), .int (1 : Int32)]) (rest := []) Cx hl.1 hP hS (c_Ob_get 0 (xs (v3 + 1).toNatClampNeg) (xs (v3 + 2).toNatClampNeg) (xs (v3 + 3).toNatClampNeg) (1 : Int32) e1) (g_Ob_get 0 (xs (v3 + 1).toNatClampNeg) (xs (v3 + 2).toNatClampNeg) (xs (v3 + 3).toNatClampNeg) (1 : Int32) e1) (by decide) (rfl : ob_cl[10]? = _) mv_Ob_get w_m_Law_13 rfl (by decide +kernel) ⟨rfl, rfl⟩ ⟨by decide, by decide⟩ hcs (Nat.le_of_ble_eq_true rfl) rfl d_law_137 (fun H locs hP hS => ?_)
    refine lv_aload_n hx hb d_law_140 rfl (lv_at hl 2 rfl) ?_
    refine lv_aload_n hx hb d_law_141 rfl (lv_at hl 0 rfl) ?_
    refine lv_iload_n hx hb d_law_142 rfl (lv_at hl 3 rfl) ?_
    refine lv_iconst (v := 1) hx hb d_law_143 (by decide) ?_
    refine lv_iadd hx hb d_law_144 ?_
    refine va_sld hx hb hX hbl hbA hS h1 d_law_145 ?_
    refine lv_aload_n hx hb d_law_146 rfl (lv_at hl 0 rfl) ?_
    refine lv_iload_n hx hb d_law_147 rfl (lv_at hl 3 rfl) ?_
    refine lv_iconst (v := 2) hx hb d_law_148 (by decide) ?_
    refine lv_iadd hx hb d_law_149 ?_
    refine va_sld hx hb hX hbl hbA hS h2 d_law_150 ?_
    refine lv_aload_n hx hb d_law_151 rfl (lv_at hl 0 rfl) ?_
    refine lv_iload_n hx hb d_law_152 rfl (lv_at hl 3 rfl) ?_
    refine lv_iconst (v := 3) hx hb d_law_153 (by decide) ?_
    refine lv_iadd hx hb d_law_154 ?_
    refine va_sld hx hb hX hbl hbA hS h3 d_law_155 ?_
    refine lv_aload_n hx hb d_law_156 rfl (lv_at hl 0 rfl) ?_
    refine lv_iload_n hx hb d_law_157 rfl (lv_at hl 3 rfl) ?_
    refine lv_iconst (v := 4) hx hb d_law_158 (by decide) ?_
    refine lv_iadd hx hb d_law_159 ?_
    refine va_sld hx hb hX hbl hbA hS h4 d_law_160 ?_
    refine lv_if_eq (tgt := 168) hx hb d_law_161 (by decide) (fun hq2 => absurd hq2 hq) (fun hq2 => ?_)
    refine lv_iconst (v := 1) hx hb d_law_164 (by decide) ?_
    refine lv_goto (tgt := 169) hx hb d_law_165 (by decide) ?_
    refine ob_lVi (nA := 4) (As := [.int (xs (v3 + 1).toNatClampNeg), .int (xs (v3 + 2).toNatClampNeg), .int (xs (v3 + 3).toNatClampNeg), .int (1 : Int32)]) (rest := [.int a0]) Cx hl.1 hP hS (c_Mo_get 103 (xs (v3 + 1).toNatClampNeg) (xs (v3 + 2).toNatClampNeg) (xs (v3 + 3).toNatClampNeg) (1 : Int32) e2) (g_Mo_get 103 (xs (v3 + 1).toNatClampNeg) (xs (v3 + 2).toNatClampNeg) (xs (v3 + 3).toNatClampNeg) (1 : Int32) e2) (by decide) (rfl : ob_cl[11]? = _) mv_Mo_get w_m_Law_17 rfl (by decide +kernel) ⟨rfl, rfl⟩ ⟨by decide, by decide⟩ hcs (Nat.le_of_ble_eq_true rfl) rfl d_law_169 (fun H locs hP hS => ?_)
    refine lv_icmp_eq (tgt := 599) hx hb d_law_172 (by decide) (fun _ => ?_) (fun hq9 => absurd rfl hq9)
    exact kk _ _ _ hr hP hS
set_option maxHeartbeats 4000000 in
theorem law_case_1 {p : Program} {l : Launch} {e : Env} {s : State} {m : MethodId} {below : List Frame} {meth : Method} {c : Code} {bs L : Nat} {xs : Nat → Int32} {b : Nat} {D : va_G} {cA : Nat → ClassId} {adK adV : Nat → Nat} {cells slots : Nat} {Q : State → Prop} {R1 R2 : ob_S → Prop} {t : ob_S} {H : Heap} {locs : List Loc} {ls : Array Slot} {v3 : Int32} (Cx : ob_C p room_1 s m #[Value.ref bs] meth c code 4 "ObservedBlocksLaw" (some .boolean) b D cA adK adV 9 204) (hX : va_X bs L xs s s.heap) (hbl : bs < s.heap.size) (hbA : ¬ ob_A b bs) (hcs : cells ≤ room_1.cells ∧ slots ≤ room_1.slots) (h0 : vp_in v3 L) (h1 : vp_in (v3 + 1) L) (h2 : vp_in (v3 + 2) L) (h3 : vp_in (v3 + 3) L) (h4 : vp_in (v3 + 4) L) (h5 : vp_in (v3 + 5) L) (hP : ob_H b D cA t H) (hS : va_S (ob_A b) s.heap H locs) (hl : lv_has ls 4 [(0, .ref bs), (1, .ref (b + 0)), (2, .ref (b + 103)), (3, .int v3)]) (hs : ∃ (r : Int32) (t1 t2 : ob_S), X_Ob_put 0 (xs (v3 + 1).toNatClampNeg) (xs (v3 + 2).toNatClampNeg) (xs (v3 + 3).toNatClampNeg) (xs (v3 + 4).toNatClampNeg) (xs (v3 + 5).toNatClampNeg) t = some (r, t1) ∧ X_Mo_put 103 (xs (v3 + 1).toNatClampNeg) (xs (v3 + 2).toNatClampNeg) (xs (v3 + 3).toNatClampNeg) (xs (v3 + 4).toNatClampNeg) (xs (v3 + 5).toNatClampNeg) t1 = some (r, t2) ∧ R2 t2) (kk : ∀ (t2 : ob_S) (H : Heap) (locs : List Loc), R2 t2 → ob_H b D cA t2 H → va_S (ob_A b) s.heap H locs → W p l e room_1 s m #[Value.ref bs] below meth c H locs cells slots Q (F0 m 599 ls [])) : W p l e room_1 s m #[Value.ref bs] below meth c H locs cells slots Q (F0 m 177 ls []) := by
  have hx := Cx.1.1
  have hb := Cx.1.2.1
  refine lv_aload_n hx hb d_law_177 rfl (lv_at hl 1 rfl) ?_
  refine lv_aload_n hx hb d_law_178 rfl (lv_at hl 0 rfl) ?_
  refine lv_iload_n hx hb d_law_179 rfl (lv_at hl 3 rfl) ?_
  refine lv_iconst (v := 1) hx hb d_law_180 (by decide) ?_
  refine lv_iadd hx hb d_law_181 ?_
  refine va_sld hx hb hX hbl hbA hS h1 d_law_182 ?_
  refine lv_aload_n hx hb d_law_183 rfl (lv_at hl 0 rfl) ?_
  refine lv_iload_n hx hb d_law_184 rfl (lv_at hl 3 rfl) ?_
  refine lv_iconst (v := 2) hx hb d_law_185 (by decide) ?_
  refine lv_iadd hx hb d_law_186 ?_
  refine va_sld hx hb hX hbl hbA hS h2 d_law_187 ?_
  refine lv_aload_n hx hb d_law_188 rfl (lv_at hl 0 rfl) ?_
  refine lv_iload_n hx hb d_law_189 rfl (lv_at hl 3 rfl) ?_
  refine lv_iconst (v := 3) hx hb d_law_190 (by decide) ?_
  refine lv_iadd hx hb d_law_191 ?_
  refine va_sld hx hb hX hbl hbA hS h3 d_law_192 ?_
  refine lv_aload_n hx hb d_law_193 rfl (lv_at hl 0 rfl) ?_
  refine lv_iload_n hx hb d_law_194 rfl (lv_at hl 3 rfl) ?_
  refine lv_iconst (v := 4) hx hb d_law_195 (by decide) ?_
  refine lv_iadd hx hb d_law_196 ?_
  refine va_sld hx hb hX hbl hbA hS h4 d_law_197 ?_
  refine lv_aload_n hx hb d_law_198 rfl (lv_at hl 0 rfl) ?_
  refine lv_iload_n hx hb d_law_199 rfl (lv_at hl 3 rfl) ?_
  refine lv_iconst (v := 5) hx hb d_law_200 (by decide) ?_
  refine lv_iadd hx hb d_law_201 ?_
  refine va_sld hx hb hX hbl hbA hS h5 d_law_202 ?_
  obtain ⟨a0, t1, t2, e1, e2, hr⟩ := hs
  refine ob_lVi (nA := 5) (As := [.int (xs (v3 + 1).toNatClampNeg), .int (xs (v3 + 2).toNatClampNeg), .int (xs (v3 + 3).toNatClampNeg), .int (xs (v3 + 4).toNatClampNeg), .int (xs (v3 + 5).toNatClampNeg)]) (rest := []) Cx hl.1 hP hS (c_Ob_put 0 (xs (v3 + 1).toNatClampNeg) (xs (v3 + 2).toNatClampNeg) (xs (v3 + 3).toNatClampNeg) (xs (v3 + 4).toNatClampNeg) (xs (v3 + 5).toNatClampNeg) e1) (g_Ob_put 0 (xs (v3 + 1).toNatClampNeg) (xs (v3 + 2).toNatClampNeg) (xs (v3 + 3).toNatClampNeg) (xs (v3 + 4).toNatClampNeg) (xs (v3 + 5).toNatClampNeg) e1) (by decide) (rfl : ob_cl[10]? = _) mv_Ob_put w_m_Law_18 rfl (by decide +kernel) ⟨rfl, rfl⟩ ⟨by decide, by decide⟩ hcs (Nat.le_of_ble_eq_true rfl) rfl d_law_203 (fun H locs hP hS => ?_)
  refine lv_aload_n hx hb d_law_206 rfl (lv_at hl 2 rfl) ?_
  refine lv_aload_n hx hb d_law_207 rfl (lv_at hl 0 rfl) ?_
  refine lv_iload_n hx hb d_law_208 rfl (lv_at hl 3 rfl) ?_
  refine lv_iconst (v := 1) hx hb d_law_209 (by decide) ?_
  refine lv_iadd hx hb d_law_210 ?_
  refine va_sld hx hb hX hbl hbA hS h1 d_law_211 ?_
  refine lv_aload_n hx hb d_law_212 rfl (lv_at hl 0 rfl) ?_
  refine lv_iload_n hx hb d_law_213 rfl (lv_at hl 3 rfl) ?_
  refine lv_iconst (v := 2) hx hb d_law_214 (by decide) ?_
  refine lv_iadd hx hb d_law_215 ?_
  refine va_sld hx hb hX hbl hbA hS h2 d_law_216 ?_
  refine lv_aload_n hx hb d_law_217 rfl (lv_at hl 0 rfl) ?_
  refine lv_iload_n hx hb d_law_218 rfl (lv_at hl 3 rfl) ?_
  refine lv_iconst (v := 3) hx hb d_law_219 (by decide) ?_
  refine lv_iadd hx hb d_law_220 ?_
  refine va_sld hx hb hX hbl hbA hS h3 d_law_221 ?_
  refine lv_aload_n hx hb d_law_222 rfl (lv_at hl 0 rfl) ?_
  refine lv_iload_n hx hb d_law_223 rfl (lv_at hl 3 rfl) ?_
  refine lv_iconst (v := 4) hx hb d_law_224 (by decide) ?_
  refine lv_iadd hx hb d_law_225 ?_
  refine va_sld hx hb hX hbl hbA hS h4 d_law_226 ?_
  refine lv_aload_n hx hb d_law_227 rfl (lv_at hl 0 rfl) ?_
  refine lv_iload_n hx hb d_law_228 rfl (lv_at hl 3 rfl) ?_
  refine lv_iconst (v := 5) hx hb d_law_229 (by decide) ?_
  refine lv_iadd hx hb d_law_230 ?_
  refine va_sld hx hb hX hbl hbA hS h5 d_law_231 ?_
  refine ob_lVi (nA := 5) (As := [.int (xs (v3 + 1).toNatClampNeg), .int (xs (v3 + 2).toNatClampNeg), .int (xs (v3 + 3).toNatClampNeg), .int (xs (v3 + 4).toNatClampNeg), .int (xs (v3 + 5).toNatClampNeg)]) (rest := [.int a0]) Cx hl.1 hP hS (c_Mo_put 103 (xs (v3 + 1).toNatClampNeg) (xs (v3 + 2).toNatClampNeg) (xs (v3 + 3).toNatClampNeg) (xs (v3 + 4).toNatClampNeg) (xs (v3 + 5).toNatClampNeg) e2) (g_Mo_put 103 (xs (v3 + 1).toNatClampNeg) (xs (v3 + 2).toNatClampNeg) (xs (v3 + 3).toNatClampNeg) (xs (v3 + 4).toNatClampNeg) (xs (v3 + 5).toNatClampNeg) e2) (by decide) (rfl : ob_cl[11]? = _) mv_Mo_put w_m_Law_22 rfl (by decide +kernel) ⟨rfl, rfl⟩ ⟨by decide, by decide⟩ hcs (Nat.le_of_ble_eq_true rfl) rfl d_law_232 (fun H locs hP hS => ?_)
  refine lv_icmp_eq (tgt := 599) hx hb d_law_235 (by decide) (fun _ => ?_) (fun hq9 => absurd rfl hq9)
  exact kk _ _ _ hr hP hS
set_option maxHeartbeats 4000000 in
theorem law_case_2 {p : Program} {l : Launch} {e : Env} {s : State} {m : MethodId} {below : List Frame} {meth : Method} {c : Code} {bs L : Nat} {xs : Nat → Int32} {b : Nat} {D : va_G} {cA : Nat → ClassId} {adK adV : Nat → Nat} {cells slots : Nat} {Q : State → Prop} {R1 R2 : ob_S → Prop} {t : ob_S} {H : Heap} {locs : List Loc} {ls : Array Slot} {v3 : Int32} (Cx : ob_C p room_1 s m #[Value.ref bs] meth c code 4 "ObservedBlocksLaw" (some .boolean) b D cA adK adV 9 204) (hX : va_X bs L xs s s.heap) (hbl : bs < s.heap.size) (hbA : ¬ ob_A b bs) (hcs : cells ≤ room_1.cells ∧ slots ≤ room_1.slots) (h0 : vp_in v3 L) (h1 : vp_in (v3 + 1) L) (h2 : vp_in (v3 + 2) L) (h3 : vp_in (v3 + 3) L) (h4 : vp_in (v3 + 4) L) (h5 : vp_in (v3 + 5) L) (hP : ob_H b D cA t H) (hS : va_S (ob_A b) s.heap H locs) (hl : lv_has ls 4 [(0, .ref bs), (1, .ref (b + 0)), (2, .ref (b + 103)), (3, .int v3)]) (hs : ∃ (r : Int32) (t1 t2 : ob_S), X_Ob_free 0 (xs (v3 + 1).toNatClampNeg) t = some (r, t1) ∧ X_Mo_free 103 (xs (v3 + 1).toNatClampNeg) t1 = some (r, t2) ∧ R2 t2) (kk : ∀ (t2 : ob_S) (H : Heap) (locs : List Loc), R2 t2 → ob_H b D cA t2 H → va_S (ob_A b) s.heap H locs → W p l e room_1 s m #[Value.ref bs] below meth c H locs cells slots Q (F0 m 599 ls [])) : W p l e room_1 s m #[Value.ref bs] below meth c H locs cells slots Q (F0 m 240 ls []) := by
  have hx := Cx.1.1
  have hb := Cx.1.2.1
  refine lv_aload_n hx hb d_law_240 rfl (lv_at hl 1 rfl) ?_
  refine lv_aload_n hx hb d_law_241 rfl (lv_at hl 0 rfl) ?_
  refine lv_iload_n hx hb d_law_242 rfl (lv_at hl 3 rfl) ?_
  refine lv_iconst (v := 1) hx hb d_law_243 (by decide) ?_
  refine lv_iadd hx hb d_law_244 ?_
  refine va_sld hx hb hX hbl hbA hS h1 d_law_245 ?_
  obtain ⟨a0, t1, t2, e1, e2, hr⟩ := hs
  refine ob_lVi (nA := 1) (As := [.int (xs (v3 + 1).toNatClampNeg)]) (rest := []) Cx hl.1 hP hS (c_Ob_free 0 (xs (v3 + 1).toNatClampNeg) e1) (g_Ob_free 0 (xs (v3 + 1).toNatClampNeg) e1) (by decide) (rfl : ob_cl[10]? = _) mv_Ob_free w_m_Law_23 rfl (by decide +kernel) ⟨rfl, rfl⟩ ⟨by decide, by decide⟩ hcs (Nat.le_of_ble_eq_true rfl) rfl d_law_246 (fun H locs hP hS => ?_)
  refine lv_aload_n hx hb d_law_249 rfl (lv_at hl 2 rfl) ?_
  refine lv_aload_n hx hb d_law_250 rfl (lv_at hl 0 rfl) ?_
  refine lv_iload_n hx hb d_law_251 rfl (lv_at hl 3 rfl) ?_
  refine lv_iconst (v := 1) hx hb d_law_252 (by decide) ?_
  refine lv_iadd hx hb d_law_253 ?_
  refine va_sld hx hb hX hbl hbA hS h1 d_law_254 ?_
  refine ob_lVi (nA := 1) (As := [.int (xs (v3 + 1).toNatClampNeg)]) (rest := [.int a0]) Cx hl.1 hP hS (c_Mo_free 103 (xs (v3 + 1).toNatClampNeg) e2) (g_Mo_free 103 (xs (v3 + 1).toNatClampNeg) e2) (by decide) (rfl : ob_cl[11]? = _) mv_Mo_free w_m_Law_27 rfl (by decide +kernel) ⟨rfl, rfl⟩ ⟨by decide, by decide⟩ hcs (Nat.le_of_ble_eq_true rfl) rfl d_law_255 (fun H locs hP hS => ?_)
  refine lv_icmp_eq (tgt := 599) hx hb d_law_258 (by decide) (fun _ => ?_) (fun hq9 => absurd rfl hq9)
  exact kk _ _ _ hr hP hS
set_option maxHeartbeats 4000000 in
theorem law_case_3 {p : Program} {l : Launch} {e : Env} {s : State} {m : MethodId} {below : List Frame} {meth : Method} {c : Code} {bs L : Nat} {xs : Nat → Int32} {b : Nat} {D : va_G} {cA : Nat → ClassId} {adK adV : Nat → Nat} {cells slots : Nat} {Q : State → Prop} {R1 R2 : ob_S → Prop} {t : ob_S} {H : Heap} {locs : List Loc} {ls : Array Slot} {v3 : Int32} (Cx : ob_C p room_1 s m #[Value.ref bs] meth c code 4 "ObservedBlocksLaw" (some .boolean) b D cA adK adV 9 204) (hX : va_X bs L xs s s.heap) (hbl : bs < s.heap.size) (hbA : ¬ ob_A b bs) (hcs : cells ≤ room_1.cells ∧ slots ≤ room_1.slots) (h0 : vp_in v3 L) (h1 : vp_in (v3 + 1) L) (h2 : vp_in (v3 + 2) L) (h3 : vp_in (v3 + 3) L) (h4 : vp_in (v3 + 4) L) (h5 : vp_in (v3 + 5) L) (hP : ob_H b D cA t H) (hS : va_S (ob_A b) s.heap H locs) (hl : lv_has ls 4 [(0, .ref bs), (1, .ref (b + 0)), (2, .ref (b + 103)), (3, .int v3)]) (hs : ∃ (r : Int32) (t1 t2 : ob_S), X_Ob_change 0 (xs (v3 + 1).toNatClampNeg) (xs (v3 + 2).toNatClampNeg) (xs (v3 + 3).toNatClampNeg) t = some (r, t1) ∧ X_Mo_change 103 (xs (v3 + 1).toNatClampNeg) (xs (v3 + 2).toNatClampNeg) (xs (v3 + 3).toNatClampNeg) t1 = some (r, t2) ∧ R2 t2) (kk : ∀ (t2 : ob_S) (H : Heap) (locs : List Loc), R2 t2 → ob_H b D cA t2 H → va_S (ob_A b) s.heap H locs → W p l e room_1 s m #[Value.ref bs] below meth c H locs cells slots Q (F0 m 599 ls [])) : W p l e room_1 s m #[Value.ref bs] below meth c H locs cells slots Q (F0 m 263 ls []) := by
  have hx := Cx.1.1
  have hb := Cx.1.2.1
  refine lv_aload_n hx hb d_law_263 rfl (lv_at hl 1 rfl) ?_
  refine lv_aload_n hx hb d_law_264 rfl (lv_at hl 0 rfl) ?_
  refine lv_iload_n hx hb d_law_265 rfl (lv_at hl 3 rfl) ?_
  refine lv_iconst (v := 1) hx hb d_law_266 (by decide) ?_
  refine lv_iadd hx hb d_law_267 ?_
  refine va_sld hx hb hX hbl hbA hS h1 d_law_268 ?_
  refine lv_aload_n hx hb d_law_269 rfl (lv_at hl 0 rfl) ?_
  refine lv_iload_n hx hb d_law_270 rfl (lv_at hl 3 rfl) ?_
  refine lv_iconst (v := 2) hx hb d_law_271 (by decide) ?_
  refine lv_iadd hx hb d_law_272 ?_
  refine va_sld hx hb hX hbl hbA hS h2 d_law_273 ?_
  refine lv_aload_n hx hb d_law_274 rfl (lv_at hl 0 rfl) ?_
  refine lv_iload_n hx hb d_law_275 rfl (lv_at hl 3 rfl) ?_
  refine lv_iconst (v := 3) hx hb d_law_276 (by decide) ?_
  refine lv_iadd hx hb d_law_277 ?_
  refine va_sld hx hb hX hbl hbA hS h3 d_law_278 ?_
  obtain ⟨a0, t1, t2, e1, e2, hr⟩ := hs
  refine ob_lVi (nA := 3) (As := [.int (xs (v3 + 1).toNatClampNeg), .int (xs (v3 + 2).toNatClampNeg), .int (xs (v3 + 3).toNatClampNeg)]) (rest := []) Cx hl.1 hP hS (c_Ob_change 0 (xs (v3 + 1).toNatClampNeg) (xs (v3 + 2).toNatClampNeg) (xs (v3 + 3).toNatClampNeg) e1) (g_Ob_change 0 (xs (v3 + 1).toNatClampNeg) (xs (v3 + 2).toNatClampNeg) (xs (v3 + 3).toNatClampNeg) e1) (by decide) (rfl : ob_cl[10]? = _) mv_Ob_change w_m_Law_28 rfl (by decide +kernel) ⟨rfl, rfl⟩ ⟨by decide, by decide⟩ hcs (Nat.le_of_ble_eq_true rfl) rfl d_law_279 (fun H locs hP hS => ?_)
  refine lv_aload_n hx hb d_law_282 rfl (lv_at hl 2 rfl) ?_
  refine lv_aload_n hx hb d_law_283 rfl (lv_at hl 0 rfl) ?_
  refine lv_iload_n hx hb d_law_284 rfl (lv_at hl 3 rfl) ?_
  refine lv_iconst (v := 1) hx hb d_law_285 (by decide) ?_
  refine lv_iadd hx hb d_law_286 ?_
  refine va_sld hx hb hX hbl hbA hS h1 d_law_287 ?_
  refine lv_aload_n hx hb d_law_288 rfl (lv_at hl 0 rfl) ?_
  refine lv_iload_n hx hb d_law_289 rfl (lv_at hl 3 rfl) ?_
  refine lv_iconst (v := 2) hx hb d_law_290 (by decide) ?_
  refine lv_iadd hx hb d_law_291 ?_
  refine va_sld hx hb hX hbl hbA hS h2 d_law_292 ?_
  refine lv_aload_n hx hb d_law_293 rfl (lv_at hl 0 rfl) ?_
  refine lv_iload_n hx hb d_law_294 rfl (lv_at hl 3 rfl) ?_
  refine lv_iconst (v := 3) hx hb d_law_295 (by decide) ?_
  refine lv_iadd hx hb d_law_296 ?_
  refine va_sld hx hb hX hbl hbA hS h3 d_law_297 ?_
  refine ob_lVi (nA := 3) (As := [.int (xs (v3 + 1).toNatClampNeg), .int (xs (v3 + 2).toNatClampNeg), .int (xs (v3 + 3).toNatClampNeg)]) (rest := [.int a0]) Cx hl.1 hP hS (c_Mo_change 103 (xs (v3 + 1).toNatClampNeg) (xs (v3 + 2).toNatClampNeg) (xs (v3 + 3).toNatClampNeg) e2) (g_Mo_change 103 (xs (v3 + 1).toNatClampNeg) (xs (v3 + 2).toNatClampNeg) (xs (v3 + 3).toNatClampNeg) e2) (by decide) (rfl : ob_cl[11]? = _) mv_Mo_change w_m_Law_32 rfl (by decide +kernel) ⟨rfl, rfl⟩ ⟨by decide, by decide⟩ hcs (Nat.le_of_ble_eq_true rfl) rfl d_law_298 (fun H locs hP hS => ?_)
  refine lv_icmp_eq (tgt := 599) hx hb d_law_301 (by decide) (fun _ => ?_) (fun hq9 => absurd rfl hq9)
  exact kk _ _ _ hr hP hS
set_option maxHeartbeats 4000000 in
theorem law_case_4 {p : Program} {l : Launch} {e : Env} {s : State} {m : MethodId} {below : List Frame} {meth : Method} {c : Code} {bs L : Nat} {xs : Nat → Int32} {b : Nat} {D : va_G} {cA : Nat → ClassId} {adK adV : Nat → Nat} {cells slots : Nat} {Q : State → Prop} {R1 R2 : ob_S → Prop} {t : ob_S} {H : Heap} {locs : List Loc} {ls : Array Slot} {v3 : Int32} (Cx : ob_C p room_1 s m #[Value.ref bs] meth c code 4 "ObservedBlocksLaw" (some .boolean) b D cA adK adV 9 204) (hX : va_X bs L xs s s.heap) (hbl : bs < s.heap.size) (hbA : ¬ ob_A b bs) (hcs : cells ≤ room_1.cells ∧ slots ≤ room_1.slots) (h0 : vp_in v3 L) (h1 : vp_in (v3 + 1) L) (h2 : vp_in (v3 + 2) L) (h3 : vp_in (v3 + 3) L) (h4 : vp_in (v3 + 4) L) (h5 : vp_in (v3 + 5) L) (hP : ob_H b D cA t H) (hS : va_S (ob_A b) s.heap H locs) (hl : lv_has ls 4 [(0, .ref bs), (1, .ref (b + 0)), (2, .ref (b + 103)), (3, .int v3)]) (hs : ∃ (r : Int32) (t1 t2 : ob_S), X_Ob_tick 0 t = some (r, t1) ∧ X_Mo_tick 103 t1 = some (r, t2) ∧ R2 t2) (kk : ∀ (t2 : ob_S) (H : Heap) (locs : List Loc), R2 t2 → ob_H b D cA t2 H → va_S (ob_A b) s.heap H locs → W p l e room_1 s m #[Value.ref bs] below meth c H locs cells slots Q (F0 m 599 ls [])) : W p l e room_1 s m #[Value.ref bs] below meth c H locs cells slots Q (F0 m 306 ls []) := by
  have hx := Cx.1.1
  have hb := Cx.1.2.1
  refine lv_aload_n hx hb d_law_306 rfl (lv_at hl 1 rfl) ?_
  obtain ⟨a0, t1, t2, e1, e2, hr⟩ := hs
  refine ob_lVi (nA := 0) (As := []) (rest := []) Cx hl.1 hP hS (c_Ob_tick 0 e1) (g_Ob_tick 0 e1) (by decide) (rfl : ob_cl[10]? = _) mv_Ob_tick w_m_Law_33 rfl (by decide +kernel) ⟨rfl, rfl⟩ ⟨by decide, by decide⟩ hcs (Nat.le_of_ble_eq_true rfl) rfl d_law_307 (fun H locs hP hS => ?_)
  refine lv_aload_n hx hb d_law_310 rfl (lv_at hl 2 rfl) ?_
  refine ob_lVi (nA := 0) (As := []) (rest := [.int a0]) Cx hl.1 hP hS (c_Mo_tick 103 e2) (g_Mo_tick 103 e2) (by decide) (rfl : ob_cl[11]? = _) mv_Mo_tick w_m_Law_37 rfl (by decide +kernel) ⟨rfl, rfl⟩ ⟨by decide, by decide⟩ hcs (Nat.le_of_ble_eq_true rfl) rfl d_law_311 (fun H locs hP hS => ?_)
  refine lv_icmp_eq (tgt := 599) hx hb d_law_314 (by decide) (fun _ => ?_) (fun hq9 => absurd rfl hq9)
  exact kk _ _ _ hr hP hS
set_option maxHeartbeats 4000000 in
theorem law_case_5 {p : Program} {l : Launch} {e : Env} {s : State} {m : MethodId} {below : List Frame} {meth : Method} {c : Code} {bs L : Nat} {xs : Nat → Int32} {b : Nat} {D : va_G} {cA : Nat → ClassId} {adK adV : Nat → Nat} {cells slots : Nat} {Q : State → Prop} {R1 R2 : ob_S → Prop} {t : ob_S} {H : Heap} {locs : List Loc} {ls : Array Slot} {v3 : Int32} (Cx : ob_C p room_1 s m #[Value.ref bs] meth c code 4 "ObservedBlocksLaw" (some .boolean) b D cA adK adV 9 204) (hX : va_X bs L xs s s.heap) (hbl : bs < s.heap.size) (hbA : ¬ ob_A b bs) (hcs : cells ≤ room_1.cells ∧ slots ≤ room_1.slots) (h0 : vp_in v3 L) (h1 : vp_in (v3 + 1) L) (h2 : vp_in (v3 + 2) L) (h3 : vp_in (v3 + 3) L) (h4 : vp_in (v3 + 4) L) (h5 : vp_in (v3 + 5) L) (hP : ob_H b D cA t H) (hS : va_S (ob_A b) s.heap H locs) (hl : lv_has ls 4 [(0, .ref bs), (1, .ref (b + 0)), (2, .ref (b + 103)), (3, .int v3)]) (hs : ∃ (r : Int32) (t1 t2 : ob_S), X_Ob_deliver 0 (xs (v3 + 1).toNatClampNeg) t = some (r, t1) ∧ X_Mo_deliver 103 (xs (v3 + 1).toNatClampNeg) t1 = some (r, t2) ∧ R2 t2) (kk : ∀ (t2 : ob_S) (H : Heap) (locs : List Loc), R2 t2 → ob_H b D cA t2 H → va_S (ob_A b) s.heap H locs → W p l e room_1 s m #[Value.ref bs] below meth c H locs cells slots Q (F0 m 599 ls [])) : W p l e room_1 s m #[Value.ref bs] below meth c H locs cells slots Q (F0 m 319 ls []) := by
  have hx := Cx.1.1
  have hb := Cx.1.2.1
  refine lv_aload_n hx hb d_law_319 rfl (lv_at hl 1 rfl) ?_
  refine lv_aload_n hx hb d_law_320 rfl (lv_at hl 0 rfl) ?_
  refine lv_iload_n hx hb d_law_321 rfl (lv_at hl 3 rfl) ?_
  refine lv_iconst (v := 1) hx hb d_law_322 (by decide) ?_
  refine lv_iadd hx hb d_law_323 ?_
  refine va_sld hx hb hX hbl hbA hS h1 d_law_324 ?_
  obtain ⟨a0, t1, t2, e1, e2, hr⟩ := hs
  refine ob_lVi (nA := 1) (As := [.int (xs (v3 + 1).toNatClampNeg)]) (rest := []) Cx hl.1 hP hS (c_Ob_deliver 0 (xs (v3 + 1).toNatClampNeg) e1) (g_Ob_deliver 0 (xs (v3 + 1).toNatClampNeg) e1) (by decide) (rfl : ob_cl[10]? = _) mv_Ob_deliver w_m_Law_38 rfl (by decide +kernel) ⟨rfl, rfl⟩ ⟨by decide, by decide⟩ hcs (Nat.le_of_ble_eq_true rfl) rfl d_law_325 (fun H locs hP hS => ?_)
  refine lv_aload_n hx hb d_law_328 rfl (lv_at hl 2 rfl) ?_
  refine lv_aload_n hx hb d_law_329 rfl (lv_at hl 0 rfl) ?_
  refine lv_iload_n hx hb d_law_330 rfl (lv_at hl 3 rfl) ?_
  refine lv_iconst (v := 1) hx hb d_law_331 (by decide) ?_
  refine lv_iadd hx hb d_law_332 ?_
  refine va_sld hx hb hX hbl hbA hS h1 d_law_333 ?_
  refine ob_lVi (nA := 1) (As := [.int (xs (v3 + 1).toNatClampNeg)]) (rest := [.int a0]) Cx hl.1 hP hS (c_Mo_deliver 103 (xs (v3 + 1).toNatClampNeg) e2) (g_Mo_deliver 103 (xs (v3 + 1).toNatClampNeg) e2) (by decide) (rfl : ob_cl[11]? = _) mv_Mo_deliver w_m_Law_41 rfl (by decide +kernel) ⟨rfl, rfl⟩ ⟨by decide, by decide⟩ hcs (Nat.le_of_ble_eq_true rfl) rfl d_law_334 (fun H locs hP hS => ?_)
  refine lv_icmp_eq (tgt := 599) hx hb d_law_337 (by decide) (fun _ => ?_) (fun hq9 => absurd rfl hq9)
  exact kk _ _ _ hr hP hS
set_option maxHeartbeats 4000000 in
theorem law_case_6 {p : Program} {l : Launch} {e : Env} {s : State} {m : MethodId} {below : List Frame} {meth : Method} {c : Code} {bs L : Nat} {xs : Nat → Int32} {b : Nat} {D : va_G} {cA : Nat → ClassId} {adK adV : Nat → Nat} {cells slots : Nat} {Q : State → Prop} {R1 R2 : ob_S → Prop} {t : ob_S} {H : Heap} {locs : List Loc} {ls : Array Slot} {v3 : Int32} (Cx : ob_C p room_1 s m #[Value.ref bs] meth c code 4 "ObservedBlocksLaw" (some .boolean) b D cA adK adV 9 204) (hX : va_X bs L xs s s.heap) (hbl : bs < s.heap.size) (hbA : ¬ ob_A b bs) (hcs : cells ≤ room_1.cells ∧ slots ≤ room_1.slots) (h0 : vp_in v3 L) (h1 : vp_in (v3 + 1) L) (h2 : vp_in (v3 + 2) L) (h3 : vp_in (v3 + 3) L) (h4 : vp_in (v3 + 4) L) (h5 : vp_in (v3 + 5) L) (hP : ob_H b D cA t H) (hS : va_S (ob_A b) s.heap H locs) (hl : lv_has ls 4 [(0, .ref bs), (1, .ref (b + 0)), (2, .ref (b + 103)), (3, .int v3)]) (hs : ∃ (r : Int32) (t1 t2 : ob_S), X_Ob_lose 0 (xs (v3 + 1).toNatClampNeg) t = some (r, t1) ∧ X_Mo_lose 103 (xs (v3 + 1).toNatClampNeg) t1 = some (r, t2) ∧ R2 t2) (kk : ∀ (t2 : ob_S) (H : Heap) (locs : List Loc), R2 t2 → ob_H b D cA t2 H → va_S (ob_A b) s.heap H locs → W p l e room_1 s m #[Value.ref bs] below meth c H locs cells slots Q (F0 m 599 ls [])) : W p l e room_1 s m #[Value.ref bs] below meth c H locs cells slots Q (F0 m 342 ls []) := by
  have hx := Cx.1.1
  have hb := Cx.1.2.1
  refine lv_aload_n hx hb d_law_342 rfl (lv_at hl 1 rfl) ?_
  refine lv_aload_n hx hb d_law_343 rfl (lv_at hl 0 rfl) ?_
  refine lv_iload_n hx hb d_law_344 rfl (lv_at hl 3 rfl) ?_
  refine lv_iconst (v := 1) hx hb d_law_345 (by decide) ?_
  refine lv_iadd hx hb d_law_346 ?_
  refine va_sld hx hb hX hbl hbA hS h1 d_law_347 ?_
  obtain ⟨a0, t1, t2, e1, e2, hr⟩ := hs
  refine ob_lVi (nA := 1) (As := [.int (xs (v3 + 1).toNatClampNeg)]) (rest := []) Cx hl.1 hP hS (c_Ob_lose 0 (xs (v3 + 1).toNatClampNeg) e1) (g_Ob_lose 0 (xs (v3 + 1).toNatClampNeg) e1) (by decide) (rfl : ob_cl[10]? = _) mv_Ob_lose w_m_Law_42 rfl (by decide +kernel) ⟨rfl, rfl⟩ ⟨by decide, by decide⟩ hcs (Nat.le_of_ble_eq_true rfl) rfl d_law_348 (fun H locs hP hS => ?_)
  refine lv_aload_n hx hb d_law_351 rfl (lv_at hl 2 rfl) ?_
  refine lv_aload_n hx hb d_law_352 rfl (lv_at hl 0 rfl) ?_
  refine lv_iload_n hx hb d_law_353 rfl (lv_at hl 3 rfl) ?_
  refine lv_iconst (v := 1) hx hb d_law_354 (by decide) ?_
  refine lv_iadd hx hb d_law_355 ?_
  refine va_sld hx hb hX hbl hbA hS h1 d_law_356 ?_
  refine ob_lVi (nA := 1) (As := [.int (xs (v3 + 1).toNatClampNeg)]) (rest := [.int a0]) Cx hl.1 hP hS (c_Mo_lose 103 (xs (v3 + 1).toNatClampNeg) e2) (g_Mo_lose 103 (xs (v3 + 1).toNatClampNeg) e2) (by decide) (rfl : ob_cl[11]? = _) mv_Mo_lose w_m_Law_45 rfl (by decide +kernel) ⟨rfl, rfl⟩ ⟨by decide, by decide⟩ hcs (Nat.le_of_ble_eq_true rfl) rfl d_law_357 (fun H locs hP hS => ?_)
  refine lv_icmp_eq (tgt := 599) hx hb d_law_360 (by decide) (fun _ => ?_) (fun hq9 => absurd rfl hq9)
  exact kk _ _ _ hr hP hS
set_option maxHeartbeats 4000000 in
theorem law_case_7 {p : Program} {l : Launch} {e : Env} {s : State} {m : MethodId} {below : List Frame} {meth : Method} {c : Code} {bs L : Nat} {xs : Nat → Int32} {b : Nat} {D : va_G} {cA : Nat → ClassId} {adK adV : Nat → Nat} {cells slots : Nat} {Q : State → Prop} {R1 R2 : ob_S → Prop} {t : ob_S} {H : Heap} {locs : List Loc} {ls : Array Slot} {v3 : Int32} (Cx : ob_C p room_1 s m #[Value.ref bs] meth c code 4 "ObservedBlocksLaw" (some .boolean) b D cA adK adV 9 204) (hX : va_X bs L xs s s.heap) (hbl : bs < s.heap.size) (hbA : ¬ ob_A b bs) (hcs : cells ≤ room_1.cells ∧ slots ≤ room_1.slots) (h0 : vp_in v3 L) (h1 : vp_in (v3 + 1) L) (h2 : vp_in (v3 + 2) L) (h3 : vp_in (v3 + 3) L) (h4 : vp_in (v3 + 4) L) (h5 : vp_in (v3 + 5) L) (hP : ob_H b D cA t H) (hS : va_S (ob_A b) s.heap H locs) (hl : lv_has ls 4 [(0, .ref bs), (1, .ref (b + 0)), (2, .ref (b + 103)), (3, .int v3)]) (hs : ∃ (r : Int32) (t1 t2 : ob_S), X_Ob_repeat 0 (xs (v3 + 1).toNatClampNeg) t = some (r, t1) ∧ X_Mo_repeat 103 (xs (v3 + 1).toNatClampNeg) t1 = some (r, t2) ∧ R2 t2) (kk : ∀ (t2 : ob_S) (H : Heap) (locs : List Loc), R2 t2 → ob_H b D cA t2 H → va_S (ob_A b) s.heap H locs → W p l e room_1 s m #[Value.ref bs] below meth c H locs cells slots Q (F0 m 599 ls [])) : W p l e room_1 s m #[Value.ref bs] below meth c H locs cells slots Q (F0 m 365 ls []) := by
  have hx := Cx.1.1
  have hb := Cx.1.2.1
  refine lv_aload_n hx hb d_law_365 rfl (lv_at hl 1 rfl) ?_
  refine lv_aload_n hx hb d_law_366 rfl (lv_at hl 0 rfl) ?_
  refine lv_iload_n hx hb d_law_367 rfl (lv_at hl 3 rfl) ?_
  refine lv_iconst (v := 1) hx hb d_law_368 (by decide) ?_
  refine lv_iadd hx hb d_law_369 ?_
  refine va_sld hx hb hX hbl hbA hS h1 d_law_370 ?_
  obtain ⟨a0, t1, t2, e1, e2, hr⟩ := hs
  refine ob_lVi (nA := 1) (As := [.int (xs (v3 + 1).toNatClampNeg)]) (rest := []) Cx hl.1 hP hS (c_Ob_repeat 0 (xs (v3 + 1).toNatClampNeg) e1) (g_Ob_repeat 0 (xs (v3 + 1).toNatClampNeg) e1) (by decide) (rfl : ob_cl[10]? = _) mv_Ob_repeat w_m_Law_46 rfl (by decide +kernel) ⟨rfl, rfl⟩ ⟨by decide, by decide⟩ hcs (Nat.le_of_ble_eq_true rfl) rfl d_law_371 (fun H locs hP hS => ?_)
  refine lv_aload_n hx hb d_law_374 rfl (lv_at hl 2 rfl) ?_
  refine lv_aload_n hx hb d_law_375 rfl (lv_at hl 0 rfl) ?_
  refine lv_iload_n hx hb d_law_376 rfl (lv_at hl 3 rfl) ?_
  refine lv_iconst (v := 1) hx hb d_law_377 (by decide) ?_
  refine lv_iadd hx hb d_law_378 ?_
  refine va_sld hx hb hX hbl hbA hS h1 d_law_379 ?_
  refine ob_lVi (nA := 1) (As := [.int (xs (v3 + 1).toNatClampNeg)]) (rest := [.int a0]) Cx hl.1 hP hS (c_Mo_repeat 103 (xs (v3 + 1).toNatClampNeg) e2) (g_Mo_repeat 103 (xs (v3 + 1).toNatClampNeg) e2) (by decide) (rfl : ob_cl[11]? = _) mv_Mo_repeat w_m_Law_49 rfl (by decide +kernel) ⟨rfl, rfl⟩ ⟨by decide, by decide⟩ hcs (Nat.le_of_ble_eq_true rfl) rfl d_law_380 (fun H locs hP hS => ?_)
  refine lv_icmp_eq (tgt := 599) hx hb d_law_383 (by decide) (fun _ => ?_) (fun hq9 => absurd rfl hq9)
  exact kk _ _ _ hr hP hS
set_option maxHeartbeats 4000000 in
theorem law_case_8 {p : Program} {l : Launch} {e : Env} {s : State} {m : MethodId} {below : List Frame} {meth : Method} {c : Code} {bs L : Nat} {xs : Nat → Int32} {b : Nat} {D : va_G} {cA : Nat → ClassId} {adK adV : Nat → Nat} {cells slots : Nat} {Q : State → Prop} {R1 R2 : ob_S → Prop} {t : ob_S} {H : Heap} {locs : List Loc} {ls : Array Slot} {v3 : Int32} (Cx : ob_C p room_1 s m #[Value.ref bs] meth c code 4 "ObservedBlocksLaw" (some .boolean) b D cA adK adV 9 204) (hX : va_X bs L xs s s.heap) (hbl : bs < s.heap.size) (hbA : ¬ ob_A b bs) (hcs : cells ≤ room_1.cells ∧ slots ≤ room_1.slots) (h0 : vp_in v3 L) (h1 : vp_in (v3 + 1) L) (h2 : vp_in (v3 + 2) L) (h3 : vp_in (v3 + 3) L) (h4 : vp_in (v3 + 4) L) (h5 : vp_in (v3 + 5) L) (hP : ob_H b D cA t H) (hS : va_S (ob_A b) s.heap H locs) (hl : lv_has ls 4 [(0, .ref bs), (1, .ref (b + 0)), (2, .ref (b + 103)), (3, .int v3)]) (hs : ∃ (r : Int32) (t1 t2 : ob_S), X_Ob_spoil 0 (xs (v3 + 1).toNatClampNeg) (xs (v3 + 2).toNatClampNeg) (xs (v3 + 3).toNatClampNeg) t = some (r, t1) ∧ X_Mo_spoil 103 (xs (v3 + 1).toNatClampNeg) (xs (v3 + 2).toNatClampNeg) (xs (v3 + 3).toNatClampNeg) t1 = some (r, t2) ∧ R2 t2) (kk : ∀ (t2 : ob_S) (H : Heap) (locs : List Loc), R2 t2 → ob_H b D cA t2 H → va_S (ob_A b) s.heap H locs → W p l e room_1 s m #[Value.ref bs] below meth c H locs cells slots Q (F0 m 599 ls [])) : W p l e room_1 s m #[Value.ref bs] below meth c H locs cells slots Q (F0 m 388 ls []) := by
  have hx := Cx.1.1
  have hb := Cx.1.2.1
  refine lv_aload_n hx hb d_law_388 rfl (lv_at hl 1 rfl) ?_
  refine lv_aload_n hx hb d_law_389 rfl (lv_at hl 0 rfl) ?_
  refine lv_iload_n hx hb d_law_390 rfl (lv_at hl 3 rfl) ?_
  refine lv_iconst (v := 1) hx hb d_law_391 (by decide) ?_
  refine lv_iadd hx hb d_law_392 ?_
  refine va_sld hx hb hX hbl hbA hS h1 d_law_393 ?_
  refine lv_aload_n hx hb d_law_394 rfl (lv_at hl 0 rfl) ?_
  refine lv_iload_n hx hb d_law_395 rfl (lv_at hl 3 rfl) ?_
  refine lv_iconst (v := 2) hx hb d_law_396 (by decide) ?_
  refine lv_iadd hx hb d_law_397 ?_
  refine va_sld hx hb hX hbl hbA hS h2 d_law_398 ?_
  refine lv_aload_n hx hb d_law_399 rfl (lv_at hl 0 rfl) ?_
  refine lv_iload_n hx hb d_law_400 rfl (lv_at hl 3 rfl) ?_
  refine lv_iconst (v := 3) hx hb d_law_401 (by decide) ?_
  refine lv_iadd hx hb d_law_402 ?_
  refine va_sld hx hb hX hbl hbA hS h3 d_law_403 ?_
  obtain ⟨a0, t1, t2, e1, e2, hr⟩ := hs
  refine ob_lVi (nA := 3) (As := [.int (xs (v3 + 1).toNatClampNeg), .int (xs (v3 + 2).toNatClampNeg), .int (xs (v3 + 3).toNatClampNeg)]) (rest := []) Cx hl.1 hP hS (c_Ob_spoil 0 (xs (v3 + 1).toNatClampNeg) (xs (v3 + 2).toNatClampNeg) (xs (v3 + 3).toNatClampNeg) e1) (g_Ob_spoil 0 (xs (v3 + 1).toNatClampNeg) (xs (v3 + 2).toNatClampNeg) (xs (v3 + 3).toNatClampNeg) e1) (by decide) (rfl : ob_cl[10]? = _) mv_Ob_spoil w_m_Law_50 rfl (by decide +kernel) ⟨rfl, rfl⟩ ⟨by decide, by decide⟩ hcs (Nat.le_of_ble_eq_true rfl) rfl d_law_404 (fun H locs hP hS => ?_)
  refine lv_aload_n hx hb d_law_407 rfl (lv_at hl 2 rfl) ?_
  refine lv_aload_n hx hb d_law_408 rfl (lv_at hl 0 rfl) ?_
  refine lv_iload_n hx hb d_law_409 rfl (lv_at hl 3 rfl) ?_
  refine lv_iconst (v := 1) hx hb d_law_410 (by decide) ?_
  refine lv_iadd hx hb d_law_411 ?_
  refine va_sld hx hb hX hbl hbA hS h1 d_law_412 ?_
  refine lv_aload_n hx hb d_law_413 rfl (lv_at hl 0 rfl) ?_
  refine lv_iload_n hx hb d_law_414 rfl (lv_at hl 3 rfl) ?_
  refine lv_iconst (v := 2) hx hb d_law_415 (by decide) ?_
  refine lv_iadd hx hb d_law_416 ?_
  refine va_sld hx hb hX hbl hbA hS h2 d_law_417 ?_
  refine lv_aload_n hx hb d_law_418 rfl (lv_at hl 0 rfl) ?_
  refine lv_iload_n hx hb d_law_419 rfl (lv_at hl 3 rfl) ?_
  refine lv_iconst (v := 3) hx hb d_law_420 (by decide) ?_
  refine lv_iadd hx hb d_law_421 ?_
  refine va_sld hx hb hX hbl hbA hS h3 d_law_422 ?_
  refine ob_lVi (nA := 3) (As := [.int (xs (v3 + 1).toNatClampNeg), .int (xs (v3 + 2).toNatClampNeg), .int (xs (v3 + 3).toNatClampNeg)]) (rest := [.int a0]) Cx hl.1 hP hS (c_Mo_spoil 103 (xs (v3 + 1).toNatClampNeg) (xs (v3 + 2).toNatClampNeg) (xs (v3 + 3).toNatClampNeg) e2) (g_Mo_spoil 103 (xs (v3 + 1).toNatClampNeg) (xs (v3 + 2).toNatClampNeg) (xs (v3 + 3).toNatClampNeg) e2) (by decide) (rfl : ob_cl[11]? = _) mv_Mo_spoil w_m_Law_54 rfl (by decide +kernel) ⟨rfl, rfl⟩ ⟨by decide, by decide⟩ hcs (Nat.le_of_ble_eq_true rfl) rfl d_law_423 (fun H locs hP hS => ?_)
  refine lv_icmp_eq (tgt := 599) hx hb d_law_426 (by decide) (fun _ => ?_) (fun hq9 => absurd rfl hq9)
  exact kk _ _ _ hr hP hS
set_option maxHeartbeats 4000000 in
theorem law_case_9 {p : Program} {l : Launch} {e : Env} {s : State} {m : MethodId} {below : List Frame} {meth : Method} {c : Code} {bs L : Nat} {xs : Nat → Int32} {b : Nat} {D : va_G} {cA : Nat → ClassId} {adK adV : Nat → Nat} {cells slots : Nat} {Q : State → Prop} {R1 R2 : ob_S → Prop} {t : ob_S} {H : Heap} {locs : List Loc} {ls : Array Slot} {v3 : Int32} (Cx : ob_C p room_1 s m #[Value.ref bs] meth c code 4 "ObservedBlocksLaw" (some .boolean) b D cA adK adV 9 204) (hX : va_X bs L xs s s.heap) (hbl : bs < s.heap.size) (hbA : ¬ ob_A b bs) (hcs : cells ≤ room_1.cells ∧ slots ≤ room_1.slots) (h0 : vp_in v3 L) (h1 : vp_in (v3 + 1) L) (h2 : vp_in (v3 + 2) L) (h3 : vp_in (v3 + 3) L) (h4 : vp_in (v3 + 4) L) (h5 : vp_in (v3 + 5) L) (hP : ob_H b D cA t H) (hS : va_S (ob_A b) s.heap H locs) (hl : lv_has ls 4 [(0, .ref bs), (1, .ref (b + 0)), (2, .ref (b + 103)), (3, .int v3)]) (hs : ∃ (r : Int32) (t1 t2 : ob_S), X_Ob_waiting 0 t = some (r, t1) ∧ X_Mo_waiting 103 t1 = some (r, t2) ∧ R2 t2) (kk : ∀ (t2 : ob_S) (H : Heap) (locs : List Loc), R2 t2 → ob_H b D cA t2 H → va_S (ob_A b) s.heap H locs → W p l e room_1 s m #[Value.ref bs] below meth c H locs cells slots Q (F0 m 599 ls [])) : W p l e room_1 s m #[Value.ref bs] below meth c H locs cells slots Q (F0 m 431 ls []) := by
  have hx := Cx.1.1
  have hb := Cx.1.2.1
  refine lv_aload_n hx hb d_law_431 rfl (lv_at hl 1 rfl) ?_
  obtain ⟨a0, t1, t2, e1, e2, hr⟩ := hs
  refine ob_lVi (nA := 0) (As := []) (rest := []) Cx hl.1 hP hS (c_Ob_waiting 0 e1) (g_Ob_waiting 0 e1) (by decide) (rfl : ob_cl[10]? = _) mv_Ob_waiting w_m_Law_55 rfl (by decide +kernel) ⟨rfl, rfl⟩ ⟨by decide, by decide⟩ hcs (Nat.le_of_ble_eq_true rfl) rfl d_law_432 (fun H locs hP hS => ?_)
  refine lv_aload_n hx hb d_law_435 rfl (lv_at hl 2 rfl) ?_
  refine ob_lVi (nA := 0) (As := []) (rest := [.int a0]) Cx hl.1 hP hS (c_Mo_waiting 103 e2) (g_Mo_waiting 103 e2) (by decide) (rfl : ob_cl[11]? = _) mv_Mo_waiting w_m_Law_58 rfl (by decide +kernel) ⟨rfl, rfl⟩ ⟨by decide, by decide⟩ hcs (Nat.le_of_ble_eq_true rfl) rfl d_law_436 (fun H locs hP hS => ?_)
  refine lv_icmp_eq (tgt := 599) hx hb d_law_439 (by decide) (fun _ => ?_) (fun hq9 => absurd rfl hq9)
  exact kk _ _ _ hr hP hS
set_option maxHeartbeats 4000000 in
theorem law_case_10 {p : Program} {l : Launch} {e : Env} {s : State} {m : MethodId} {below : List Frame} {meth : Method} {c : Code} {bs L : Nat} {xs : Nat → Int32} {b : Nat} {D : va_G} {cA : Nat → ClassId} {adK adV : Nat → Nat} {cells slots : Nat} {Q : State → Prop} {R1 R2 : ob_S → Prop} {t : ob_S} {H : Heap} {locs : List Loc} {ls : Array Slot} {v3 : Int32} (Cx : ob_C p room_1 s m #[Value.ref bs] meth c code 4 "ObservedBlocksLaw" (some .boolean) b D cA adK adV 9 204) (hX : va_X bs L xs s s.heap) (hbl : bs < s.heap.size) (hbA : ¬ ob_A b bs) (hcs : cells ≤ room_1.cells ∧ slots ≤ room_1.slots) (h0 : vp_in v3 L) (h1 : vp_in (v3 + 1) L) (h2 : vp_in (v3 + 2) L) (h3 : vp_in (v3 + 3) L) (h4 : vp_in (v3 + 4) L) (h5 : vp_in (v3 + 5) L) (hP : ob_H b D cA t H) (hS : va_S (ob_A b) s.heap H locs) (hl : lv_has ls 4 [(0, .ref bs), (1, .ref (b + 0)), (2, .ref (b + 103)), (3, .int v3)]) (hs : ∃ (r : Int32) (t1 t2 : ob_S), X_Ob_datagram 0 (xs (v3 + 1).toNatClampNeg) (xs (v3 + 2).toNatClampNeg) t = some (r, t1) ∧ X_Mo_datagram 103 (xs (v3 + 1).toNatClampNeg) (xs (v3 + 2).toNatClampNeg) t1 = some (r, t2) ∧ R2 t2) (kk : ∀ (t2 : ob_S) (H : Heap) (locs : List Loc), R2 t2 → ob_H b D cA t2 H → va_S (ob_A b) s.heap H locs → W p l e room_1 s m #[Value.ref bs] below meth c H locs cells slots Q (F0 m 599 ls [])) : W p l e room_1 s m #[Value.ref bs] below meth c H locs cells slots Q (F0 m 444 ls []) := by
  have hx := Cx.1.1
  have hb := Cx.1.2.1
  refine lv_aload_n hx hb d_law_444 rfl (lv_at hl 1 rfl) ?_
  refine lv_aload_n hx hb d_law_445 rfl (lv_at hl 0 rfl) ?_
  refine lv_iload_n hx hb d_law_446 rfl (lv_at hl 3 rfl) ?_
  refine lv_iconst (v := 1) hx hb d_law_447 (by decide) ?_
  refine lv_iadd hx hb d_law_448 ?_
  refine va_sld hx hb hX hbl hbA hS h1 d_law_449 ?_
  refine lv_aload_n hx hb d_law_450 rfl (lv_at hl 0 rfl) ?_
  refine lv_iload_n hx hb d_law_451 rfl (lv_at hl 3 rfl) ?_
  refine lv_iconst (v := 2) hx hb d_law_452 (by decide) ?_
  refine lv_iadd hx hb d_law_453 ?_
  refine va_sld hx hb hX hbl hbA hS h2 d_law_454 ?_
  obtain ⟨a0, t1, t2, e1, e2, hr⟩ := hs
  refine ob_lVi (nA := 2) (As := [.int (xs (v3 + 1).toNatClampNeg), .int (xs (v3 + 2).toNatClampNeg)]) (rest := []) Cx hl.1 hP hS (c_Ob_datagram 0 (xs (v3 + 1).toNatClampNeg) (xs (v3 + 2).toNatClampNeg) e1) (g_Ob_datagram 0 (xs (v3 + 1).toNatClampNeg) (xs (v3 + 2).toNatClampNeg) e1) (by decide) (rfl : ob_cl[10]? = _) mv_Ob_datagram w_m_Law_59 rfl (by decide +kernel) ⟨rfl, rfl⟩ ⟨by decide, by decide⟩ hcs (Nat.le_of_ble_eq_true rfl) rfl d_law_455 (fun H locs hP hS => ?_)
  refine lv_aload_n hx hb d_law_458 rfl (lv_at hl 2 rfl) ?_
  refine lv_aload_n hx hb d_law_459 rfl (lv_at hl 0 rfl) ?_
  refine lv_iload_n hx hb d_law_460 rfl (lv_at hl 3 rfl) ?_
  refine lv_iconst (v := 1) hx hb d_law_461 (by decide) ?_
  refine lv_iadd hx hb d_law_462 ?_
  refine va_sld hx hb hX hbl hbA hS h1 d_law_463 ?_
  refine lv_aload_n hx hb d_law_464 rfl (lv_at hl 0 rfl) ?_
  refine lv_iload_n hx hb d_law_465 rfl (lv_at hl 3 rfl) ?_
  refine lv_iconst (v := 2) hx hb d_law_466 (by decide) ?_
  refine lv_iadd hx hb d_law_467 ?_
  refine va_sld hx hb hX hbl hbA hS h2 d_law_468 ?_
  refine ob_lVi (nA := 2) (As := [.int (xs (v3 + 1).toNatClampNeg), .int (xs (v3 + 2).toNatClampNeg)]) (rest := [.int a0]) Cx hl.1 hP hS (c_Mo_datagram 103 (xs (v3 + 1).toNatClampNeg) (xs (v3 + 2).toNatClampNeg) e2) (g_Mo_datagram 103 (xs (v3 + 1).toNatClampNeg) (xs (v3 + 2).toNatClampNeg) e2) (by decide) (rfl : ob_cl[11]? = _) mv_Mo_datagram w_m_Law_63 rfl (by decide +kernel) ⟨rfl, rfl⟩ ⟨by decide, by decide⟩ hcs (Nat.le_of_ble_eq_true rfl) rfl d_law_469 (fun H locs hP hS => ?_)
  refine lv_icmp_eq (tgt := 599) hx hb d_law_472 (by decide) (fun _ => ?_) (fun hq9 => absurd rfl hq9)
  exact kk _ _ _ hr hP hS
set_option maxHeartbeats 4000000 in
theorem law_case_11 {p : Program} {l : Launch} {e : Env} {s : State} {m : MethodId} {below : List Frame} {meth : Method} {c : Code} {bs L : Nat} {xs : Nat → Int32} {b : Nat} {D : va_G} {cA : Nat → ClassId} {adK adV : Nat → Nat} {cells slots : Nat} {Q : State → Prop} {R1 R2 : ob_S → Prop} {t : ob_S} {H : Heap} {locs : List Loc} {ls : Array Slot} {v3 : Int32} (Cx : ob_C p room_1 s m #[Value.ref bs] meth c code 4 "ObservedBlocksLaw" (some .boolean) b D cA adK adV 9 204) (hX : va_X bs L xs s s.heap) (hbl : bs < s.heap.size) (hbA : ¬ ob_A b bs) (hcs : cells ≤ room_1.cells ∧ slots ≤ room_1.slots) (h0 : vp_in v3 L) (h1 : vp_in (v3 + 1) L) (h2 : vp_in (v3 + 2) L) (h3 : vp_in (v3 + 3) L) (h4 : vp_in (v3 + 4) L) (h5 : vp_in (v3 + 5) L) (hP : ob_H b D cA t H) (hS : va_S (ob_A b) s.heap H locs) (hl : lv_has ls 4 [(0, .ref bs), (1, .ref (b + 0)), (2, .ref (b + 103)), (3, .int v3)]) (hs : ∃ (r : Int32) (t1 t2 : ob_S), X_Ob_slot 0 (xs (v3 + 1).toNatClampNeg) (xs (v3 + 2).toNatClampNeg) t = some (r, t1) ∧ X_Mo_slot 103 (xs (v3 + 1).toNatClampNeg) (xs (v3 + 2).toNatClampNeg) t1 = some (r, t2) ∧ R2 t2) (kk : ∀ (t2 : ob_S) (H : Heap) (locs : List Loc), R2 t2 → ob_H b D cA t2 H → va_S (ob_A b) s.heap H locs → W p l e room_1 s m #[Value.ref bs] below meth c H locs cells slots Q (F0 m 599 ls [])) : W p l e room_1 s m #[Value.ref bs] below meth c H locs cells slots Q (F0 m 477 ls []) := by
  have hx := Cx.1.1
  have hb := Cx.1.2.1
  refine lv_aload_n hx hb d_law_477 rfl (lv_at hl 1 rfl) ?_
  refine lv_aload_n hx hb d_law_478 rfl (lv_at hl 0 rfl) ?_
  refine lv_iload_n hx hb d_law_479 rfl (lv_at hl 3 rfl) ?_
  refine lv_iconst (v := 1) hx hb d_law_480 (by decide) ?_
  refine lv_iadd hx hb d_law_481 ?_
  refine va_sld hx hb hX hbl hbA hS h1 d_law_482 ?_
  refine lv_aload_n hx hb d_law_483 rfl (lv_at hl 0 rfl) ?_
  refine lv_iload_n hx hb d_law_484 rfl (lv_at hl 3 rfl) ?_
  refine lv_iconst (v := 2) hx hb d_law_485 (by decide) ?_
  refine lv_iadd hx hb d_law_486 ?_
  refine va_sld hx hb hX hbl hbA hS h2 d_law_487 ?_
  obtain ⟨a0, t1, t2, e1, e2, hr⟩ := hs
  refine ob_lVi (nA := 2) (As := [.int (xs (v3 + 1).toNatClampNeg), .int (xs (v3 + 2).toNatClampNeg)]) (rest := []) Cx hl.1 hP hS (c_Ob_slot 0 (xs (v3 + 1).toNatClampNeg) (xs (v3 + 2).toNatClampNeg) e1) (g_Ob_slot 0 (xs (v3 + 1).toNatClampNeg) (xs (v3 + 2).toNatClampNeg) e1) (by decide) (rfl : ob_cl[10]? = _) mv_Ob_slot w_m_Law_64 rfl (by decide +kernel) ⟨rfl, rfl⟩ ⟨by decide, by decide⟩ hcs (Nat.le_of_ble_eq_true rfl) rfl d_law_488 (fun H locs hP hS => ?_)
  refine lv_aload_n hx hb d_law_491 rfl (lv_at hl 2 rfl) ?_
  refine lv_aload_n hx hb d_law_492 rfl (lv_at hl 0 rfl) ?_
  refine lv_iload_n hx hb d_law_493 rfl (lv_at hl 3 rfl) ?_
  refine lv_iconst (v := 1) hx hb d_law_494 (by decide) ?_
  refine lv_iadd hx hb d_law_495 ?_
  refine va_sld hx hb hX hbl hbA hS h1 d_law_496 ?_
  refine lv_aload_n hx hb d_law_497 rfl (lv_at hl 0 rfl) ?_
  refine lv_iload_n hx hb d_law_498 rfl (lv_at hl 3 rfl) ?_
  refine lv_iconst (v := 2) hx hb d_law_499 (by decide) ?_
  refine lv_iadd hx hb d_law_500 ?_
  refine va_sld hx hb hX hbl hbA hS h2 d_law_501 ?_
  refine ob_lVi (nA := 2) (As := [.int (xs (v3 + 1).toNatClampNeg), .int (xs (v3 + 2).toNatClampNeg)]) (rest := [.int a0]) Cx hl.1 hP hS (c_Mo_slot 103 (xs (v3 + 1).toNatClampNeg) (xs (v3 + 2).toNatClampNeg) e2) (g_Mo_slot 103 (xs (v3 + 1).toNatClampNeg) (xs (v3 + 2).toNatClampNeg) e2) (by decide) (rfl : ob_cl[11]? = _) mv_Mo_slot w_m_Law_67 rfl (by decide +kernel) ⟨rfl, rfl⟩ ⟨by decide, by decide⟩ hcs (Nat.le_of_ble_eq_true rfl) rfl d_law_502 (fun H locs hP hS => ?_)
  refine lv_icmp_eq (tgt := 599) hx hb d_law_505 (by decide) (fun _ => ?_) (fun hq9 => absurd rfl hq9)
  exact kk _ _ _ hr hP hS
set_option maxHeartbeats 4000000 in
theorem law_case_12 {p : Program} {l : Launch} {e : Env} {s : State} {m : MethodId} {below : List Frame} {meth : Method} {c : Code} {bs L : Nat} {xs : Nat → Int32} {b : Nat} {D : va_G} {cA : Nat → ClassId} {adK adV : Nat → Nat} {cells slots : Nat} {Q : State → Prop} {R1 R2 : ob_S → Prop} {t : ob_S} {H : Heap} {locs : List Loc} {ls : Array Slot} {v3 : Int32} (Cx : ob_C p room_1 s m #[Value.ref bs] meth c code 4 "ObservedBlocksLaw" (some .boolean) b D cA adK adV 9 204) (hX : va_X bs L xs s s.heap) (hbl : bs < s.heap.size) (hbA : ¬ ob_A b bs) (hcs : cells ≤ room_1.cells ∧ slots ≤ room_1.slots) (h0 : vp_in v3 L) (h1 : vp_in (v3 + 1) L) (h2 : vp_in (v3 + 2) L) (h3 : vp_in (v3 + 3) L) (h4 : vp_in (v3 + 4) L) (h5 : vp_in (v3 + 5) L) (hP : ob_H b D cA t H) (hS : va_S (ob_A b) s.heap H locs) (hl : lv_has ls 4 [(0, .ref bs), (1, .ref (b + 0)), (2, .ref (b + 103)), (3, .int v3)]) (hs : ∃ (r : Int32) (t1 t2 : ob_S), X_Ob_body 0 (xs (v3 + 1).toNatClampNeg) (xs (v3 + 2).toNatClampNeg) t = some (r, t1) ∧ X_Mo_body 103 (xs (v3 + 1).toNatClampNeg) (xs (v3 + 2).toNatClampNeg) t1 = some (r, t2) ∧ R2 t2) (kk : ∀ (t2 : ob_S) (H : Heap) (locs : List Loc), R2 t2 → ob_H b D cA t2 H → va_S (ob_A b) s.heap H locs → W p l e room_1 s m #[Value.ref bs] below meth c H locs cells slots Q (F0 m 599 ls [])) : W p l e room_1 s m #[Value.ref bs] below meth c H locs cells slots Q (F0 m 510 ls []) := by
  have hx := Cx.1.1
  have hb := Cx.1.2.1
  refine lv_aload_n hx hb d_law_510 rfl (lv_at hl 1 rfl) ?_
  refine lv_aload_n hx hb d_law_511 rfl (lv_at hl 0 rfl) ?_
  refine lv_iload_n hx hb d_law_512 rfl (lv_at hl 3 rfl) ?_
  refine lv_iconst (v := 1) hx hb d_law_513 (by decide) ?_
  refine lv_iadd hx hb d_law_514 ?_
  refine va_sld hx hb hX hbl hbA hS h1 d_law_515 ?_
  refine lv_aload_n hx hb d_law_516 rfl (lv_at hl 0 rfl) ?_
  refine lv_iload_n hx hb d_law_517 rfl (lv_at hl 3 rfl) ?_
  refine lv_iconst (v := 2) hx hb d_law_518 (by decide) ?_
  refine lv_iadd hx hb d_law_519 ?_
  refine va_sld hx hb hX hbl hbA hS h2 d_law_520 ?_
  obtain ⟨a0, t1, t2, e1, e2, hr⟩ := hs
  refine ob_lVi (nA := 2) (As := [.int (xs (v3 + 1).toNatClampNeg), .int (xs (v3 + 2).toNatClampNeg)]) (rest := []) Cx hl.1 hP hS (c_Ob_body 0 (xs (v3 + 1).toNatClampNeg) (xs (v3 + 2).toNatClampNeg) e1) (g_Ob_body 0 (xs (v3 + 1).toNatClampNeg) (xs (v3 + 2).toNatClampNeg) e1) (by decide) (rfl : ob_cl[10]? = _) mv_Ob_body w_m_Law_68 rfl (by decide +kernel) ⟨rfl, rfl⟩ ⟨by decide, by decide⟩ hcs (Nat.le_of_ble_eq_true rfl) rfl d_law_521 (fun H locs hP hS => ?_)
  refine lv_aload_n hx hb d_law_524 rfl (lv_at hl 2 rfl) ?_
  refine lv_aload_n hx hb d_law_525 rfl (lv_at hl 0 rfl) ?_
  refine lv_iload_n hx hb d_law_526 rfl (lv_at hl 3 rfl) ?_
  refine lv_iconst (v := 1) hx hb d_law_527 (by decide) ?_
  refine lv_iadd hx hb d_law_528 ?_
  refine va_sld hx hb hX hbl hbA hS h1 d_law_529 ?_
  refine lv_aload_n hx hb d_law_530 rfl (lv_at hl 0 rfl) ?_
  refine lv_iload_n hx hb d_law_531 rfl (lv_at hl 3 rfl) ?_
  refine lv_iconst (v := 2) hx hb d_law_532 (by decide) ?_
  refine lv_iadd hx hb d_law_533 ?_
  refine va_sld hx hb hX hbl hbA hS h2 d_law_534 ?_
  refine ob_lVi (nA := 2) (As := [.int (xs (v3 + 1).toNatClampNeg), .int (xs (v3 + 2).toNatClampNeg)]) (rest := [.int a0]) Cx hl.1 hP hS (c_Mo_body 103 (xs (v3 + 1).toNatClampNeg) (xs (v3 + 2).toNatClampNeg) e2) (g_Mo_body 103 (xs (v3 + 1).toNatClampNeg) (xs (v3 + 2).toNatClampNeg) e2) (by decide) (rfl : ob_cl[11]? = _) mv_Mo_body w_m_Law_71 rfl (by decide +kernel) ⟨rfl, rfl⟩ ⟨by decide, by decide⟩ hcs (Nat.le_of_ble_eq_true rfl) rfl d_law_535 (fun H locs hP hS => ?_)
  refine lv_icmp_eq (tgt := 599) hx hb d_law_538 (by decide) (fun _ => ?_) (fun hq9 => absurd rfl hq9)
  exact kk _ _ _ hr hP hS
set_option maxHeartbeats 4000000 in
theorem law_case_13 {p : Program} {l : Launch} {e : Env} {s : State} {m : MethodId} {below : List Frame} {meth : Method} {c : Code} {bs L : Nat} {xs : Nat → Int32} {b : Nat} {D : va_G} {cA : Nat → ClassId} {adK adV : Nat → Nat} {cells slots : Nat} {Q : State → Prop} {R1 R2 : ob_S → Prop} {t : ob_S} {H : Heap} {locs : List Loc} {ls : Array Slot} {v3 : Int32} (Cx : ob_C p room_1 s m #[Value.ref bs] meth c code 4 "ObservedBlocksLaw" (some .boolean) b D cA adK adV 9 204) (hX : va_X bs L xs s s.heap) (hbl : bs < s.heap.size) (hbA : ¬ ob_A b bs) (hcs : cells ≤ room_1.cells ∧ slots ≤ room_1.slots) (h0 : vp_in v3 L) (h1 : vp_in (v3 + 1) L) (h2 : vp_in (v3 + 2) L) (h3 : vp_in (v3 + 3) L) (h4 : vp_in (v3 + 4) L) (h5 : vp_in (v3 + 5) L) (hP : ob_H b D cA t H) (hS : va_S (ob_A b) s.heap H locs) (hl : lv_has ls 4 [(0, .ref bs), (1, .ref (b + 0)), (2, .ref (b + 103)), (3, .int v3)]) (hs : ∃ (r : Int32) (t1 t2 : ob_S), X_Ob_content 0 (xs (v3 + 1).toNatClampNeg) (xs (v3 + 2).toNatClampNeg) t = some (r, t1) ∧ X_Mo_content 103 (xs (v3 + 1).toNatClampNeg) (xs (v3 + 2).toNatClampNeg) t1 = some (r, t2) ∧ R2 t2) (kk : ∀ (t2 : ob_S) (H : Heap) (locs : List Loc), R2 t2 → ob_H b D cA t2 H → va_S (ob_A b) s.heap H locs → W p l e room_1 s m #[Value.ref bs] below meth c H locs cells slots Q (F0 m 599 ls [])) : W p l e room_1 s m #[Value.ref bs] below meth c H locs cells slots Q (F0 m 543 ls []) := by
  have hx := Cx.1.1
  have hb := Cx.1.2.1
  refine lv_aload_n hx hb d_law_543 rfl (lv_at hl 1 rfl) ?_
  refine lv_aload_n hx hb d_law_544 rfl (lv_at hl 0 rfl) ?_
  refine lv_iload_n hx hb d_law_545 rfl (lv_at hl 3 rfl) ?_
  refine lv_iconst (v := 1) hx hb d_law_546 (by decide) ?_
  refine lv_iadd hx hb d_law_547 ?_
  refine va_sld hx hb hX hbl hbA hS h1 d_law_548 ?_
  refine lv_aload_n hx hb d_law_549 rfl (lv_at hl 0 rfl) ?_
  refine lv_iload_n hx hb d_law_550 rfl (lv_at hl 3 rfl) ?_
  refine lv_iconst (v := 2) hx hb d_law_551 (by decide) ?_
  refine lv_iadd hx hb d_law_552 ?_
  refine va_sld hx hb hX hbl hbA hS h2 d_law_553 ?_
  obtain ⟨a0, t1, t2, e1, e2, hr⟩ := hs
  refine ob_lVi (nA := 2) (As := [.int (xs (v3 + 1).toNatClampNeg), .int (xs (v3 + 2).toNatClampNeg)]) (rest := []) Cx hl.1 hP hS (c_Ob_content 0 (xs (v3 + 1).toNatClampNeg) (xs (v3 + 2).toNatClampNeg) e1) (g_Ob_content 0 (xs (v3 + 1).toNatClampNeg) (xs (v3 + 2).toNatClampNeg) e1) (by decide) (rfl : ob_cl[10]? = _) mv_Ob_content w_m_Law_72 rfl (by decide +kernel) ⟨rfl, rfl⟩ ⟨by decide, by decide⟩ hcs (Nat.le_of_ble_eq_true rfl) rfl d_law_554 (fun H locs hP hS => ?_)
  refine lv_aload_n hx hb d_law_557 rfl (lv_at hl 2 rfl) ?_
  refine lv_aload_n hx hb d_law_558 rfl (lv_at hl 0 rfl) ?_
  refine lv_iload_n hx hb d_law_559 rfl (lv_at hl 3 rfl) ?_
  refine lv_iconst (v := 1) hx hb d_law_560 (by decide) ?_
  refine lv_iadd hx hb d_law_561 ?_
  refine va_sld hx hb hX hbl hbA hS h1 d_law_562 ?_
  refine lv_aload_n hx hb d_law_563 rfl (lv_at hl 0 rfl) ?_
  refine lv_iload_n hx hb d_law_564 rfl (lv_at hl 3 rfl) ?_
  refine lv_iconst (v := 2) hx hb d_law_565 (by decide) ?_
  refine lv_iadd hx hb d_law_566 ?_
  refine va_sld hx hb hX hbl hbA hS h2 d_law_567 ?_
  refine ob_lVi (nA := 2) (As := [.int (xs (v3 + 1).toNatClampNeg), .int (xs (v3 + 2).toNatClampNeg)]) (rest := [.int a0]) Cx hl.1 hP hS (c_Mo_content 103 (xs (v3 + 1).toNatClampNeg) (xs (v3 + 2).toNatClampNeg) e2) (g_Mo_content 103 (xs (v3 + 1).toNatClampNeg) (xs (v3 + 2).toNatClampNeg) e2) (by decide) (rfl : ob_cl[11]? = _) mv_Mo_content w_m_Law_75 rfl (by decide +kernel) ⟨rfl, rfl⟩ ⟨by decide, by decide⟩ hcs (Nat.le_of_ble_eq_true rfl) rfl d_law_568 (fun H locs hP hS => ?_)
  refine lv_icmp_eq (tgt := 599) hx hb d_law_571 (by decide) (fun _ => ?_) (fun hq9 => absurd rfl hq9)
  exact kk _ _ _ hr hP hS
set_option maxHeartbeats 4000000 in
theorem law_case_14 {p : Program} {l : Launch} {e : Env} {s : State} {m : MethodId} {below : List Frame} {meth : Method} {c : Code} {bs L : Nat} {xs : Nat → Int32} {b : Nat} {D : va_G} {cA : Nat → ClassId} {adK adV : Nat → Nat} {cells slots : Nat} {Q : State → Prop} {R1 R2 : ob_S → Prop} {t : ob_S} {H : Heap} {locs : List Loc} {ls : Array Slot} {v3 : Int32} (Cx : ob_C p room_1 s m #[Value.ref bs] meth c code 4 "ObservedBlocksLaw" (some .boolean) b D cA adK adV 9 204) (hX : va_X bs L xs s s.heap) (hbl : bs < s.heap.size) (hbA : ¬ ob_A b bs) (hcs : cells ≤ room_1.cells ∧ slots ≤ room_1.slots) (h0 : vp_in v3 L) (h1 : vp_in (v3 + 1) L) (h2 : vp_in (v3 + 2) L) (h3 : vp_in (v3 + 3) L) (h4 : vp_in (v3 + 4) L) (h5 : vp_in (v3 + 5) L) (hP : ob_H b D cA t H) (hS : va_S (ob_A b) s.heap H locs) (hl : lv_has ls 4 [(0, .ref bs), (1, .ref (b + 0)), (2, .ref (b + 103)), (3, .int v3)]) (hs : ∃ (r : Int32) (t1 t2 : ob_S), X_Ob_server 0 (xs (v3 + 1).toNatClampNeg) t = some (r, t1) ∧ X_Mo_server 103 (xs (v3 + 1).toNatClampNeg) t1 = some (r, t2) ∧ R2 t2) (kk : ∀ (t2 : ob_S) (H : Heap) (locs : List Loc), R2 t2 → ob_H b D cA t2 H → va_S (ob_A b) s.heap H locs → W p l e room_1 s m #[Value.ref bs] below meth c H locs cells slots Q (F0 m 599 ls [])) : W p l e room_1 s m #[Value.ref bs] below meth c H locs cells slots Q (F0 m 576 ls []) := by
  have hx := Cx.1.1
  have hb := Cx.1.2.1
  refine lv_aload_n hx hb d_law_576 rfl (lv_at hl 1 rfl) ?_
  refine lv_aload_n hx hb d_law_577 rfl (lv_at hl 0 rfl) ?_
  refine lv_iload_n hx hb d_law_578 rfl (lv_at hl 3 rfl) ?_
  refine lv_iconst (v := 1) hx hb d_law_579 (by decide) ?_
  refine lv_iadd hx hb d_law_580 ?_
  refine va_sld hx hb hX hbl hbA hS h1 d_law_581 ?_
  obtain ⟨a0, t1, t2, e1, e2, hr⟩ := hs
  refine ob_lVi (nA := 1) (As := [.int (xs (v3 + 1).toNatClampNeg)]) (rest := []) Cx hl.1 hP hS (c_Ob_server 0 (xs (v3 + 1).toNatClampNeg) e1) (g_Ob_server 0 (xs (v3 + 1).toNatClampNeg) e1) (by decide) (rfl : ob_cl[10]? = _) mv_Ob_server w_m_Law_76 rfl (by decide +kernel) ⟨rfl, rfl⟩ ⟨by decide, by decide⟩ hcs (Nat.le_of_ble_eq_true rfl) rfl d_law_582 (fun H locs hP hS => ?_)
  refine lv_aload_n hx hb d_law_585 rfl (lv_at hl 2 rfl) ?_
  refine lv_aload_n hx hb d_law_586 rfl (lv_at hl 0 rfl) ?_
  refine lv_iload_n hx hb d_law_587 rfl (lv_at hl 3 rfl) ?_
  refine lv_iconst (v := 1) hx hb d_law_588 (by decide) ?_
  refine lv_iadd hx hb d_law_589 ?_
  refine va_sld hx hb hX hbl hbA hS h1 d_law_590 ?_
  refine ob_lVi (nA := 1) (As := [.int (xs (v3 + 1).toNatClampNeg)]) (rest := [.int a0]) Cx hl.1 hP hS (c_Mo_server 103 (xs (v3 + 1).toNatClampNeg) e2) (g_Mo_server 103 (xs (v3 + 1).toNatClampNeg) e2) (by decide) (rfl : ob_cl[11]? = _) mv_Mo_server w_m_Law_79 rfl (by decide +kernel) ⟨rfl, rfl⟩ ⟨by decide, by decide⟩ hcs (Nat.le_of_ble_eq_true rfl) rfl d_law_591 (fun H locs hP hS => ?_)
  refine lv_icmp_eq (tgt := 599) hx hb d_law_594 (by decide) (fun _ => ?_) (fun hq9 => absurd rfl hq9)
  exact kk _ _ _ hr hP hS
def ob_Sim (R1 R2 : ob_S → Prop) : Prop := (∀ t, R1 t → R2 t) ∧ (∀ (t : ob_S) (a0 : Int32) (a1 : Int32) (a2 : Int32) (a3 : Int32), R1 t → (a3 = 0 ∨ a3 = 1) → ∃ (r : Int32) (t1 t2 : ob_S), X_Ob_get 0 a0 a1 a2 a3 t = some (r, t1) ∧ X_Mo_get 103 a0 a1 a2 a3 t1 = some (r, t2) ∧ R2 t2) ∧ (∀ (t : ob_S) (a0 : Int32) (a1 : Int32) (a2 : Int32) (a3 : Int32) (a4 : Int32), R1 t → ∃ (r : Int32) (t1 t2 : ob_S), X_Ob_put 0 a0 a1 a2 a3 a4 t = some (r, t1) ∧ X_Mo_put 103 a0 a1 a2 a3 a4 t1 = some (r, t2) ∧ R2 t2) ∧ (∀ (t : ob_S) (a0 : Int32), R1 t → ∃ (r : Int32) (t1 t2 : ob_S), X_Ob_free 0 a0 t = some (r, t1) ∧ X_Mo_free 103 a0 t1 = some (r, t2) ∧ R2 t2) ∧ (∀ (t : ob_S) (a0 : Int32) (a1 : Int32) (a2 : Int32), R1 t → ∃ (r : Int32) (t1 t2 : ob_S), X_Ob_change 0 a0 a1 a2 t = some (r, t1) ∧ X_Mo_change 103 a0 a1 a2 t1 = some (r, t2) ∧ R2 t2) ∧ (∀ (t : ob_S), R1 t → ∃ (r : Int32) (t1 t2 : ob_S), X_Ob_tick 0 t = some (r, t1) ∧ X_Mo_tick 103 t1 = some (r, t2) ∧ R2 t2) ∧ (∀ (t : ob_S) (a0 : Int32), R1 t → ∃ (r : Int32) (t1 t2 : ob_S), X_Ob_deliver 0 a0 t = some (r, t1) ∧ X_Mo_deliver 103 a0 t1 = some (r, t2) ∧ R2 t2) ∧ (∀ (t : ob_S) (a0 : Int32), R1 t → ∃ (r : Int32) (t1 t2 : ob_S), X_Ob_lose 0 a0 t = some (r, t1) ∧ X_Mo_lose 103 a0 t1 = some (r, t2) ∧ R2 t2) ∧ (∀ (t : ob_S) (a0 : Int32), R1 t → ∃ (r : Int32) (t1 t2 : ob_S), X_Ob_repeat 0 a0 t = some (r, t1) ∧ X_Mo_repeat 103 a0 t1 = some (r, t2) ∧ R2 t2) ∧ (∀ (t : ob_S) (a0 : Int32) (a1 : Int32) (a2 : Int32), R1 t → ∃ (r : Int32) (t1 t2 : ob_S), X_Ob_spoil 0 a0 a1 a2 t = some (r, t1) ∧ X_Mo_spoil 103 a0 a1 a2 t1 = some (r, t2) ∧ R2 t2) ∧ (∀ (t : ob_S), R1 t → ∃ (r : Int32) (t1 t2 : ob_S), X_Ob_waiting 0 t = some (r, t1) ∧ X_Mo_waiting 103 t1 = some (r, t2) ∧ R2 t2) ∧ (∀ (t : ob_S) (a0 : Int32) (a1 : Int32), R1 t → ∃ (r : Int32) (t1 t2 : ob_S), X_Ob_datagram 0 a0 a1 t = some (r, t1) ∧ X_Mo_datagram 103 a0 a1 t1 = some (r, t2) ∧ R2 t2) ∧ (∀ (t : ob_S) (a0 : Int32) (a1 : Int32), R1 t → ∃ (r : Int32) (t1 t2 : ob_S), X_Ob_slot 0 a0 a1 t = some (r, t1) ∧ X_Mo_slot 103 a0 a1 t1 = some (r, t2) ∧ R2 t2) ∧ (∀ (t : ob_S) (a0 : Int32) (a1 : Int32), R1 t → ∃ (r : Int32) (t1 t2 : ob_S), X_Ob_body 0 a0 a1 t = some (r, t1) ∧ X_Mo_body 103 a0 a1 t1 = some (r, t2) ∧ R2 t2) ∧ (∀ (t : ob_S) (a0 : Int32) (a1 : Int32), R1 t → ∃ (r : Int32) (t1 t2 : ob_S), X_Ob_content 0 a0 a1 t = some (r, t1) ∧ X_Mo_content 103 a0 a1 t1 = some (r, t2) ∧ R2 t2) ∧ (∀ (t : ob_S) (a0 : Int32), R1 t → ∃ (r : Int32) (t1 t2 : ob_S), X_Ob_server 0 a0 t = some (r, t1) ∧ X_Mo_server 103 a0 t1 = some (r, t2) ∧ R2 t2)
theorem law_and : ∀ x : Int32, ¬ (x &&& 15).toInt < 0 ∧ ¬ 15 < (x &&& 15).toInt := by
  intro x
  obtain ⟨j, hj, e⟩ := pk_andE x (m := 15) 4 (by decide)
  rw [e, nI_toInt (by omega)]
  omega
set_option maxHeartbeats 4000000 in
theorem law_step {p : Program} {l : Launch} {e : Env} {s : State} {m : MethodId} {below : List Frame} {meth : Method} {c : Code} {bs L : Nat} {xs : Nat → Int32} {b : Nat} {D : va_G} {cA : Nat → ClassId} {adK adV : Nat → Nat} {cells slots : Nat} {Q : State → Prop} {R1 R2 : ob_S → Prop} {t : ob_S} {H : Heap} {locs : List Loc} {ls : Array Slot} {v3 : Int32} (Cx : ob_C p room_1 s m #[Value.ref bs] meth c code 4 "ObservedBlocksLaw" (some .boolean) b D cA adK adV 9 204) (hX : va_X bs L xs s s.heap) (hbl : bs < s.heap.size) (hbA : ¬ ob_A b bs) (hcs : cells ≤ room_1.cells ∧ slots ≤ room_1.slots) (h0 : vp_in v3 L) (h1 : vp_in (v3 + 1) L) (h2 : vp_in (v3 + 2) L) (h3 : vp_in (v3 + 3) L) (h4 : vp_in (v3 + 4) L) (h5 : vp_in (v3 + 5) L) (hsim : ob_Sim R1 R2) (hrel : R1 t) (hP : ob_H b D cA t H) (hS : va_S (ob_A b) s.heap H locs) (hl : lv_has ls 4 [(0, .ref bs), (1, .ref (b + 0)), (2, .ref (b + 103)), (3, .int v3)]) (kk : ∀ (t2 : ob_S) (H : Heap) (locs : List Loc), R2 t2 → ob_H b D cA t2 H → va_S (ob_A b) s.heap H locs → W p l e room_1 s m #[Value.ref bs] below meth c H locs cells slots Q (F0 m 599 ls [])) : W p l e room_1 s m #[Value.ref bs] below meth c H locs cells slots Q (F0 m 27 ls []) := by
  have hx := Cx.1.1
  have hb := Cx.1.2.1
  refine lv_aload_n hx hb d_law_27 rfl (lv_at hl 0 rfl) ?_
  refine lv_iload_n hx hb d_law_28 rfl (lv_at hl 3 rfl) ?_
  refine va_sld hx hb hX hbl hbA hS h0 d_law_29 ?_
  refine lv_bipush (v := 15) hx hb d_law_30 (by decide) ?_
  refine lv_iand hx hb d_law_32 ?_
  generalize hw : xs v3.toNatClampNeg &&& 15 = w
  by_cases c0 : w = (0 : Int32)
  · refine lv_tableIn (tgt := 108) (off := 75) hx hb d_law_33 (by rw [c0]; decide) (by rw [c0]; decide) (by rw [c0]; decide) (by decide) ?_
    exact law_case_0 (R1 := R1) Cx hX hbl hbA hcs h0 h1 h2 h3 h4 h5 hP hS hl (fun d hd => hsim.2.1 t (xs (v3 + 1).toNatClampNeg) (xs (v3 + 2).toNatClampNeg) (xs (v3 + 3).toNatClampNeg) d hrel hd) kk
  by_cases c1 : w = (1 : Int32)
  · refine lv_tableIn (tgt := 177) (off := 144) hx hb d_law_33 (by rw [c1]; decide) (by rw [c1]; decide) (by rw [c1]; decide) (by decide) ?_
    exact law_case_1 (R1 := R1) Cx hX hbl hbA hcs h0 h1 h2 h3 h4 h5 hP hS hl (hsim.2.2.1 t (xs (v3 + 1).toNatClampNeg) (xs (v3 + 2).toNatClampNeg) (xs (v3 + 3).toNatClampNeg) (xs (v3 + 4).toNatClampNeg) (xs (v3 + 5).toNatClampNeg) hrel) kk
  by_cases c2 : w = (2 : Int32)
  · refine lv_tableIn (tgt := 240) (off := 207) hx hb d_law_33 (by rw [c2]; decide) (by rw [c2]; decide) (by rw [c2]; decide) (by decide) ?_
    exact law_case_2 (R1 := R1) Cx hX hbl hbA hcs h0 h1 h2 h3 h4 h5 hP hS hl (hsim.2.2.2.1 t (xs (v3 + 1).toNatClampNeg) hrel) kk
  by_cases c3 : w = (3 : Int32)
  · refine lv_tableIn (tgt := 263) (off := 230) hx hb d_law_33 (by rw [c3]; decide) (by rw [c3]; decide) (by rw [c3]; decide) (by decide) ?_
    exact law_case_3 (R1 := R1) Cx hX hbl hbA hcs h0 h1 h2 h3 h4 h5 hP hS hl (hsim.2.2.2.2.1 t (xs (v3 + 1).toNatClampNeg) (xs (v3 + 2).toNatClampNeg) (xs (v3 + 3).toNatClampNeg) hrel) kk
  by_cases c4 : w = (4 : Int32)
  · refine lv_tableIn (tgt := 306) (off := 273) hx hb d_law_33 (by rw [c4]; decide) (by rw [c4]; decide) (by rw [c4]; decide) (by decide) ?_
    exact law_case_4 (R1 := R1) Cx hX hbl hbA hcs h0 h1 h2 h3 h4 h5 hP hS hl (hsim.2.2.2.2.2.1 t hrel) kk
  by_cases c5 : w = (5 : Int32)
  · refine lv_tableIn (tgt := 319) (off := 286) hx hb d_law_33 (by rw [c5]; decide) (by rw [c5]; decide) (by rw [c5]; decide) (by decide) ?_
    exact law_case_5 (R1 := R1) Cx hX hbl hbA hcs h0 h1 h2 h3 h4 h5 hP hS hl (hsim.2.2.2.2.2.2.1 t (xs (v3 + 1).toNatClampNeg) hrel) kk
  by_cases c6 : w = (6 : Int32)
  · refine lv_tableIn (tgt := 342) (off := 309) hx hb d_law_33 (by rw [c6]; decide) (by rw [c6]; decide) (by rw [c6]; decide) (by decide) ?_
    exact law_case_6 (R1 := R1) Cx hX hbl hbA hcs h0 h1 h2 h3 h4 h5 hP hS hl (hsim.2.2.2.2.2.2.2.1 t (xs (v3 + 1).toNatClampNeg) hrel) kk
  by_cases c7 : w = (7 : Int32)
  · refine lv_tableIn (tgt := 365) (off := 332) hx hb d_law_33 (by rw [c7]; decide) (by rw [c7]; decide) (by rw [c7]; decide) (by decide) ?_
    exact law_case_7 (R1 := R1) Cx hX hbl hbA hcs h0 h1 h2 h3 h4 h5 hP hS hl (hsim.2.2.2.2.2.2.2.2.1 t (xs (v3 + 1).toNatClampNeg) hrel) kk
  by_cases c8 : w = (8 : Int32)
  · refine lv_tableIn (tgt := 388) (off := 355) hx hb d_law_33 (by rw [c8]; decide) (by rw [c8]; decide) (by rw [c8]; decide) (by decide) ?_
    exact law_case_8 (R1 := R1) Cx hX hbl hbA hcs h0 h1 h2 h3 h4 h5 hP hS hl (hsim.2.2.2.2.2.2.2.2.2.1 t (xs (v3 + 1).toNatClampNeg) (xs (v3 + 2).toNatClampNeg) (xs (v3 + 3).toNatClampNeg) hrel) kk
  by_cases c9 : w = (9 : Int32)
  · refine lv_tableIn (tgt := 431) (off := 398) hx hb d_law_33 (by rw [c9]; decide) (by rw [c9]; decide) (by rw [c9]; decide) (by decide) ?_
    exact law_case_9 (R1 := R1) Cx hX hbl hbA hcs h0 h1 h2 h3 h4 h5 hP hS hl (hsim.2.2.2.2.2.2.2.2.2.2.1 t hrel) kk
  by_cases c10 : w = (10 : Int32)
  · refine lv_tableIn (tgt := 444) (off := 411) hx hb d_law_33 (by rw [c10]; decide) (by rw [c10]; decide) (by rw [c10]; decide) (by decide) ?_
    exact law_case_10 (R1 := R1) Cx hX hbl hbA hcs h0 h1 h2 h3 h4 h5 hP hS hl (hsim.2.2.2.2.2.2.2.2.2.2.2.1 t (xs (v3 + 1).toNatClampNeg) (xs (v3 + 2).toNatClampNeg) hrel) kk
  by_cases c11 : w = (11 : Int32)
  · refine lv_tableIn (tgt := 477) (off := 444) hx hb d_law_33 (by rw [c11]; decide) (by rw [c11]; decide) (by rw [c11]; decide) (by decide) ?_
    exact law_case_11 (R1 := R1) Cx hX hbl hbA hcs h0 h1 h2 h3 h4 h5 hP hS hl (hsim.2.2.2.2.2.2.2.2.2.2.2.2.1 t (xs (v3 + 1).toNatClampNeg) (xs (v3 + 2).toNatClampNeg) hrel) kk
  by_cases c12 : w = (12 : Int32)
  · refine lv_tableIn (tgt := 510) (off := 477) hx hb d_law_33 (by rw [c12]; decide) (by rw [c12]; decide) (by rw [c12]; decide) (by decide) ?_
    exact law_case_12 (R1 := R1) Cx hX hbl hbA hcs h0 h1 h2 h3 h4 h5 hP hS hl (hsim.2.2.2.2.2.2.2.2.2.2.2.2.2.1 t (xs (v3 + 1).toNatClampNeg) (xs (v3 + 2).toNatClampNeg) hrel) kk
  by_cases c13 : w = (13 : Int32)
  · refine lv_tableIn (tgt := 543) (off := 510) hx hb d_law_33 (by rw [c13]; decide) (by rw [c13]; decide) (by rw [c13]; decide) (by decide) ?_
    exact law_case_13 (R1 := R1) Cx hX hbl hbA hcs h0 h1 h2 h3 h4 h5 hP hS hl (hsim.2.2.2.2.2.2.2.2.2.2.2.2.2.2.1 t (xs (v3 + 1).toNatClampNeg) (xs (v3 + 2).toNatClampNeg) hrel) kk
  by_cases c14 : w = (14 : Int32)
  · refine lv_tableIn (tgt := 576) (off := 543) hx hb d_law_33 (by rw [c14]; decide) (by rw [c14]; decide) (by rw [c14]; decide) (by decide) ?_
    exact law_case_14 (R1 := R1) Cx hX hbl hbA hcs h0 h1 h2 h3 h4 h5 hP hS hl (hsim.2.2.2.2.2.2.2.2.2.2.2.2.2.2.2 t (xs (v3 + 1).toNatClampNeg) hrel) kk
  have n0 := lv_neT c0 (show ((0 : Int32)).toInt = 0 by decide)
  have n1 := lv_neT c1 (show ((1 : Int32)).toInt = 1 by decide)
  have n2 := lv_neT c2 (show ((2 : Int32)).toInt = 2 by decide)
  have n3 := lv_neT c3 (show ((3 : Int32)).toInt = 3 by decide)
  have n4 := lv_neT c4 (show ((4 : Int32)).toInt = 4 by decide)
  have n5 := lv_neT c5 (show ((5 : Int32)).toInt = 5 by decide)
  have n6 := lv_neT c6 (show ((6 : Int32)).toInt = 6 by decide)
  have n7 := lv_neT c7 (show ((7 : Int32)).toInt = 7 by decide)
  have n8 := lv_neT c8 (show ((8 : Int32)).toInt = 8 by decide)
  have n9 := lv_neT c9 (show ((9 : Int32)).toInt = 9 by decide)
  have n10 := lv_neT c10 (show ((10 : Int32)).toInt = 10 by decide)
  have n11 := lv_neT c11 (show ((11 : Int32)).toInt = 11 by decide)
  have n12 := lv_neT c12 (show ((12 : Int32)).toInt = 12 by decide)
  have n13 := lv_neT c13 (show ((13 : Int32)).toInt = 13 by decide)
  have n14 := lv_neT c14 (show ((14 : Int32)).toInt = 14 by decide)
  obtain ⟨b1, b2⟩ := law_and (xs v3.toNatClampNeg)
  rw [hw] at b1 b2
  refine lv_tableOut (tgt := 599) hx hb d_law_33 (by omega) (by decide) ?_
  exact kk t H locs (hsim.1 t hrel) hP hS

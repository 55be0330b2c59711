/-! LAYER 2, 34: the reference asks, 2 -/
/-- what an ask leaves -/
def mo_Asked (u : ob_S) (t : ob_S) (s : Nat) (F : Nat → Nat) (B : List Nat) (cn : Nat) (LL : List (List Nat × Nat)) (row : List Nat) : Prop := mo_Sl u s (va_up F 2 1) B ∧ mo_Pe u s (some (cn, 4, 4, 0, row)) ∧ ob_i u 103 5 = nI ((cn + 1) % 65536) ∧ mo_Li u (af_send LL row 1) ∧ mo_F (dK s) t u
theorem y_ask118 {a : Int32} {t : ob_S} {s : Nat} {F : Nat → Nat} {B L : List Nat} {cn m : Nat} {LL : List (List Nat × Nat)} (h : mo_Sr t s F B a) (o : mo_Out t L 11) (hL : mo_Li t LL) (hc : ob_i t 103 5 = nI cn) (hcn : cn < 65536) (hs : s < 2) (hl : L.length ≤ 11) (ok : sl_ok F B) (so : so_a s F) (hm : m = if F 7 = 0 then 0 else af_more B.length (F 6) (F 5)) : ∃ u, B_Mo_ask_99 103 (nI s) (nI B.length) (nI m) t = some u ∧ mo_Asked u t s F B cn LL (L ++ aw_blk F B) := by
  have hF5 : F 5 < 2 := ok.2.2.2.1
  have hF6 : F 6 ≤ 5 := ok.2.2.2.2.1
  have hF7 : F 7 < 2 := ok.2.2.2.2.2.1
  have hB80 : B.length ≤ 80 := ok.2.2.2.2.2.2.2.2.2.2.2.2.1
  have hz := af_size_ok (F 5)
  have hm2 : m < 2 := by
    rw [hm]
    have := af_more_lt B.length (F 6) (F 5)
    split <;> omega
  have s0 := o.1
  have e119 := h.2.2.2.2.2.1
  have e118 := h.2.2.2.2.1
  have e120 := h.2.2.2.2.2.2.1
  have e16 : ((16 : Int32) * nI (F 6) + (8 : Int32) * nI m) + nI (F 5) = nI (16 * F 6 + 8 * m + F 5) := by
    rw [show (16 : Int32) = nI 16 from rfl, show (8 : Int32) = nI 8 from rfl, pk_mul, pk_mul, nI_add, nI_add]
  by_cases c : F 7 = 0
  · rw [if_pos c] at hm
    subst hm
    obtain ⟨u, eu, ou, fu⟩ := y_option 23 (16 * F 6 + 8 * 0 + F 5) o (by omega) (by omega) (by omega) (by omega)
    have s1 := ou.1
    have e120' : ob_i u 120 s = nI (F 7) := (fu.2.2.2.2 _ _ (by omega)).trans e120
    have hlen : (L ++ aw_head 11 23 (aw_n (16 * F 6 + 8 * 0 + F 5)) ++ aw_val (16 * F 6 + 8 * 0 + F 5)).length ≤ 14 := by
      have := aw_head_len 11 23 (aw_n (16 * F 6 + 8 * 0 + F 5))
      have := aw_val1 (v := 16 * F 6 + 8 * 0 + F 5) (by omega)
      simp only [List.length_append]
      omega
    obtain ⟨w, ew, q1, q2, q3, q4, q5⟩ := y_ask172 (P := []) (m := 0) (h.f fu (fun n j a b => by omega)) ou (hL.f fu (fun n j a b => by omega)) ((fu.2.2.2.2 _ _ (by omega)).trans hc) hcn hs hlen ok so (by omega) (fun z => absurd c z) (by rw [if_pos c])
    have er : L ++ aw_blk F B = L ++ aw_head 11 23 (aw_n (16 * F 6 + 8 * 0 + F 5)) ++ aw_val (16 * F 6 + 8 * 0 + F 5) ++ (if ([] : List Nat).length = 0 then [] else 255 :: []) := by
      rw [aw_blk, if_pos c]
      simp
    rw [er]
    refine ⟨w, ?_, q1, q2, q3, q4, (fu.mono (fun n j z => Or.inl z)).tr q5⟩
    simp (disch := first | assumption | (simp only [mo_shs]; assumption) | omega | (simp; done)) only [B_Mo_ask_99, B_Mo_ask_118, ob_i_self, ob_i_n, ob_i_k, mo_shs, Option.bind_some, ob_b2_s, mo_this, mo_g, mo_p, mo_r0, mo_r1, mo_r2, mo_r7, mo_r8, mo_r9, mo_r10, mo_r11, mo_r12, mo_r13, mo_r14, mo_r15, mo_r16, mo_r17, mo_r18, mo_r19, mo_r20, mo_r21, mo_r22, mo_r23, mo_r24, mo_r25, mo_r26, mo_r27, mo_r28, mo_r29, mo_r30, mo_r31, mo_r33, mo_r34, mo_r35, mo_r36, mo_r40, mo_r41, mo_r42, mo_r43, mo_r44, mo_r47, mo_r55, mo_r56, mo_a104, mo_a105, mo_a106, mo_a107, mo_a108, mo_a109, mo_a110, mo_a111, mo_a112, mo_a113, mo_a114, mo_a115, mo_a116, mo_a117, mo_a118, mo_a119, mo_a120, mo_a121, mo_a122, mo_a123, mo_a124, mo_a125, mo_a126, mo_a127, mo_a128, mo_a129, mo_a130, mo_a131, mo_a132, mo_a133, mo_a134, mo_a135, mo_a136, mo_a137, mo_a138, mo_a139, mo_a140, mo_a141, mo_a142, mo_a143, mo_w104, mo_w105, mo_w106, mo_w107, mo_w108, mo_w109, mo_w110, mo_w111, mo_w112, mo_w113, mo_w114, mo_w115, mo_w116, mo_w117, mo_w118, mo_w119, mo_w120, mo_w121, mo_w122, mo_w123, mo_w124, mo_w125, mo_w126, mo_w127, mo_w128, mo_w129, mo_w130, mo_w131, mo_w132, mo_w133, mo_w134, mo_w135, mo_w136, mo_w137, mo_w138, mo_w139, mo_w140, mo_w141, mo_w142, mo_w143, e120, e119, e118, e16]
    rw [c, if_pos (show nI 0 = 0 from rfl), show (23 : Int32) = nI 23 from rfl, eu]
    simp (disch := first | assumption | (simp only [mo_shs]; assumption) | omega | (simp; done)) only [ob_i_self, ob_i_n, ob_i_k, mo_shs, Option.bind_some, ob_b2_s, mo_this, mo_g, mo_p, mo_r0, mo_r1, mo_r2, mo_r7, mo_r8, mo_r9, mo_r10, mo_r11, mo_r12, mo_r13, mo_r14, mo_r15, mo_r16, mo_r17, mo_r18, mo_r19, mo_r20, mo_r21, mo_r22, mo_r23, mo_r24, mo_r25, mo_r26, mo_r27, mo_r28, mo_r29, mo_r30, mo_r31, mo_r33, mo_r34, mo_r35, mo_r36, mo_r40, mo_r41, mo_r42, mo_r43, mo_r44, mo_r47, mo_r55, mo_r56, mo_a104, mo_a105, mo_a106, mo_a107, mo_a108, mo_a109, mo_a110, mo_a111, mo_a112, mo_a113, mo_a114, mo_a115, mo_a116, mo_a117, mo_a118, mo_a119, mo_a120, mo_a121, mo_a122, mo_a123, mo_a124, mo_a125, mo_a126, mo_a127, mo_a128, mo_a129, mo_a130, mo_a131, mo_a132, mo_a133, mo_a134, mo_a135, mo_a136, mo_a137, mo_a138, mo_a139, mo_a140, mo_a141, mo_a142, mo_a143, mo_w104, mo_w105, mo_w106, mo_w107, mo_w108, mo_w109, mo_w110, mo_w111, mo_w112, mo_w113, mo_w114, mo_w115, mo_w116, mo_w117, mo_w118, mo_w119, mo_w120, mo_w121, mo_w122, mo_w123, mo_w124, mo_w125, mo_w126, mo_w127, mo_w128, mo_w129, mo_w130, mo_w131, mo_w132, mo_w133, mo_w134, mo_w135, mo_w136, mo_w137, mo_w138, mo_w139, mo_w140, mo_w141, mo_w142, mo_w143, e120']
    rw [c, if_pos (show nI 0 = 0 from rfl)]
    exact ew
  · rw [if_neg c] at hm
    have c1 : F 7 = 1 := by omega
    obtain ⟨u, eu, ou, fu⟩ := y_option 27 (16 * F 6 + 8 * m + F 5) o (by omega) (by omega) (by omega) (by omega)
    have s1 := ou.1
    have sl1 := h.f fu (fun n j a b => by omega)
    have e120' := sl1.2.2.2.2.2.2.1
    have e119' := sl1.2.2.2.2.2.1
    have e118' := sl1.2.2.2.2.1
    have hlen : (L ++ aw_head 11 27 (aw_n (16 * F 6 + 8 * m + F 5)) ++ aw_val (16 * F 6 + 8 * m + F 5)).length ≤ 14 := by
      have := aw_head_len 11 27 (aw_n (16 * F 6 + 8 * m + F 5))
      have := aw_val1 (v := 16 * F 6 + 8 * m + F 5) (by omega)
      simp only [List.length_append]
      omega
    obtain ⟨hpl, hpe⟩ := aw_pay_e (K := B) (st := F 6 * af_size (F 5)) (ct := af_size (F 5)) (by omega)
    obtain ⟨w, ew, q1, q2, q3, q4, q5⟩ := y_ask172 (P := (B.drop (F 6 * af_size (F 5))).take (af_size (F 5))) (m := m) sl1 ou (hL.f fu (fun n j a b => by omega)) ((fu.2.2.2.2 _ _ (by omega)).trans hc) hcn hs hlen ok so hm2 (fun _ => hm) (by rw [if_neg c])
    rw [← hpe] at q2 q4
    have er : L ++ aw_blk F B = L ++ aw_head 11 27 (aw_n (16 * F 6 + 8 * m + F 5)) ++ aw_val (16 * F 6 + 8 * m + F 5) ++ aw_pay B (F 6 * af_size (F 5)) (af_size (F 5)) := by
      rw [aw_blk, if_neg c, hm]
      simp [List.append_assoc]
    rw [er]
    refine ⟨w, ?_, q1, q2, q3, q4, (fu.mono (fun n j z => Or.inl z)).tr q5⟩
    simp (disch := first | assumption | (simp only [mo_shs]; assumption) | omega | (simp; done)) only [B_Mo_ask_99, B_Mo_ask_118, ob_i_self, ob_i_n, ob_i_k, mo_shs, Option.bind_some, ob_b2_s, mo_this, mo_g, mo_p, mo_r0, mo_r1, mo_r2, mo_r7, mo_r8, mo_r9, mo_r10, mo_r11, mo_r12, mo_r13, mo_r14, mo_r15, mo_r16, mo_r17, mo_r18, mo_r19, mo_r20, mo_r21, mo_r22, mo_r23, mo_r24, mo_r25, mo_r26, mo_r27, mo_r28, mo_r29, mo_r30, mo_r31, mo_r33, mo_r34, mo_r35, mo_r36, mo_r40, mo_r41, mo_r42, mo_r43, mo_r44, mo_r47, mo_r55, mo_r56, mo_a104, mo_a105, mo_a106, mo_a107, mo_a108, mo_a109, mo_a110, mo_a111, mo_a112, mo_a113, mo_a114, mo_a115, mo_a116, mo_a117, mo_a118, mo_a119, mo_a120, mo_a121, mo_a122, mo_a123, mo_a124, mo_a125, mo_a126, mo_a127, mo_a128, mo_a129, mo_a130, mo_a131, mo_a132, mo_a133, mo_a134, mo_a135, mo_a136, mo_a137, mo_a138, mo_a139, mo_a140, mo_a141, mo_a142, mo_a143, mo_w104, mo_w105, mo_w106, mo_w107, mo_w108, mo_w109, mo_w110, mo_w111, mo_w112, mo_w113, mo_w114, mo_w115, mo_w116, mo_w117, mo_w118, mo_w119, mo_w120, mo_w121, mo_w122, mo_w123, mo_w124, mo_w125, mo_w126, mo_w127, mo_w128, mo_w129, mo_w130, mo_w131, mo_w132, mo_w133, mo_w134, mo_w135, mo_w136, mo_w137, mo_w138, mo_w139, mo_w140, mo_w141, mo_w142, mo_w143, e120, e119, e118, e16]
    rw [c1, if_neg (show ¬ nI 1 = 0 by decide), show (27 : Int32) = nI 27 from rfl, eu]
    simp (disch := first | assumption | (simp only [mo_shs]; assumption) | omega | (simp; done)) only [ob_i_self, ob_i_n, ob_i_k, mo_shs, Option.bind_some, ob_b2_s, mo_this, mo_g, mo_p, mo_r0, mo_r1, mo_r2, mo_r7, mo_r8, mo_r9, mo_r10, mo_r11, mo_r12, mo_r13, mo_r14, mo_r15, mo_r16, mo_r17, mo_r18, mo_r19, mo_r20, mo_r21, mo_r22, mo_r23, mo_r24, mo_r25, mo_r26, mo_r27, mo_r28, mo_r29, mo_r30, mo_r31, mo_r33, mo_r34, mo_r35, mo_r36, mo_r40, mo_r41, mo_r42, mo_r43, mo_r44, mo_r47, mo_r55, mo_r56, mo_a104, mo_a105, mo_a106, mo_a107, mo_a108, mo_a109, mo_a110, mo_a111, mo_a112, mo_a113, mo_a114, mo_a115, mo_a116, mo_a117, mo_a118, mo_a119, mo_a120, mo_a121, mo_a122, mo_a123, mo_a124, mo_a125, mo_a126, mo_a127, mo_a128, mo_a129, mo_a130, mo_a131, mo_a132, mo_a133, mo_a134, mo_a135, mo_a136, mo_a137, mo_a138, mo_a139, mo_a140, mo_a141, mo_a142, mo_a143, mo_w104, mo_w105, mo_w106, mo_w107, mo_w108, mo_w109, mo_w110, mo_w111, mo_w112, mo_w113, mo_w114, mo_w115, mo_w116, mo_w117, mo_w118, mo_w119, mo_w120, mo_w121, mo_w122, mo_w123, mo_w124, mo_w125, mo_w126, mo_w127, mo_w128, mo_w129, mo_w130, mo_w131, mo_w132, mo_w133, mo_w134, mo_w135, mo_w136, mo_w137, mo_w138, mo_w139, mo_w140, mo_w141, mo_w142, mo_w143, e120', e119', e118', y_within]
    rw [c1, if_neg (show ¬ nI 1 = 0 by decide), ← hpl]
    exact ew
theorem y_ask60 {a : Int32} {t : ob_S} {s : Nat} {F : Nat → Nat} {B L : List Nat} {cn last : Nat} {LL : List (List Nat × Nat)} (h : mo_Sr t s F B a) (o : mo_Out t L last) (hL : mo_Li t LL) (hc : ob_i t 103 5 = nI cn) (hcn : cn < 65536) (hs : s < 2) (hl : L.length ≤ 6) (hla : last = 0 ∨ last = 6) (ok : sl_ok F B) (so : so_a s F) : ∃ u, B_Mo_ask_60 103 (nI s) (nI B.length) t = some u ∧ mo_Asked u t s F B cn LL (L ++ aw_path last (F 4) ++ aw_blk F B) := by
  have hF4 : F 4 < 5 := ok.2.2.1
  have hF5 : F 5 < 2 := ok.2.2.2.1
  have hF6 : F 6 ≤ 5 := ok.2.2.2.2.1
  have hF7 : F 7 < 2 := ok.2.2.2.2.2.1
  have hB80 : B.length ≤ 80 := ok.2.2.2.2.2.2.2.2.2.2.2.2.1
  have s0 := o.1
  have e117 := h.2.2.2.1
  obtain ⟨u, eu, ou, fu⟩ := y_path (F 4) hF4 o (by omega) (by omega)
  have s1 := ou.1
  have sl1 := h.f fu (fun n j a b => by omega)
  have e120' := sl1.2.2.2.2.2.2.1
  have e119' := sl1.2.2.2.2.2.1
  have e118' := sl1.2.2.2.2.1
  have hlen : (L ++ aw_path last (F 4)).length ≤ 11 := by
    have := aw_path_len (F 4) hF4
    rw [List.length_append]
    rcases hla with rfl | rfl <;> omega
  obtain ⟨w, ew, q1, q2, q3, q4, q5⟩ := y_ask118 (m := if F 7 = 0 then 0 else af_more B.length (F 6) (F 5)) sl1 ou (hL.f fu (fun n j a b => by omega)) ((fu.2.2.2.2 _ _ (by omega)).trans hc) hcn hs hlen ok so rfl
  refine ⟨w, ?_, q1, q2, q3, q4, (fu.mono (fun n j z => Or.inl z)).tr q5⟩
  simp (disch := first | assumption | (simp only [mo_shs]; assumption) | omega | (simp; done)) only [B_Mo_ask_60, ob_i_self, ob_i_n, ob_i_k, mo_shs, Option.bind_some, ob_b2_s, mo_this, mo_g, mo_p, mo_r0, mo_r1, mo_r2, mo_r7, mo_r8, mo_r9, mo_r10, mo_r11, mo_r12, mo_r13, mo_r14, mo_r15, mo_r16, mo_r17, mo_r18, mo_r19, mo_r20, mo_r21, mo_r22, mo_r23, mo_r24, mo_r25, mo_r26, mo_r27, mo_r28, mo_r29, mo_r30, mo_r31, mo_r33, mo_r34, mo_r35, mo_r36, mo_r40, mo_r41, mo_r42, mo_r43, mo_r44, mo_r47, mo_r55, mo_r56, mo_a104, mo_a105, mo_a106, mo_a107, mo_a108, mo_a109, mo_a110, mo_a111, mo_a112, mo_a113, mo_a114, mo_a115, mo_a116, mo_a117, mo_a118, mo_a119, mo_a120, mo_a121, mo_a122, mo_a123, mo_a124, mo_a125, mo_a126, mo_a127, mo_a128, mo_a129, mo_a130, mo_a131, mo_a132, mo_a133, mo_a134, mo_a135, mo_a136, mo_a137, mo_a138, mo_a139, mo_a140, mo_a141, mo_a142, mo_a143, mo_w104, mo_w105, mo_w106, mo_w107, mo_w108, mo_w109, mo_w110, mo_w111, mo_w112, mo_w113, mo_w114, mo_w115, mo_w116, mo_w117, mo_w118, mo_w119, mo_w120, mo_w121, mo_w122, mo_w123, mo_w124, mo_w125, mo_w126, mo_w127, mo_w128, mo_w129, mo_w130, mo_w131, mo_w132, mo_w133, mo_w134, mo_w135, mo_w136, mo_w137, mo_w138, mo_w139, mo_w140, mo_w141, mo_w142, mo_w143, e117]
  rw [eu]
  simp (disch := first | assumption | (simp only [mo_shs]; assumption) | omega | (simp; done)) only [ob_i_self, ob_i_n, ob_i_k, mo_shs, Option.bind_some, ob_b2_s, mo_this, mo_g, mo_p, mo_r0, mo_r1, mo_r2, mo_r7, mo_r8, mo_r9, mo_r10, mo_r11, mo_r12, mo_r13, mo_r14, mo_r15, mo_r16, mo_r17, mo_r18, mo_r19, mo_r20, mo_r21, mo_r22, mo_r23, mo_r24, mo_r25, mo_r26, mo_r27, mo_r28, mo_r29, mo_r30, mo_r31, mo_r33, mo_r34, mo_r35, mo_r36, mo_r40, mo_r41, mo_r42, mo_r43, mo_r44, mo_r47, mo_r55, mo_r56, mo_a104, mo_a105, mo_a106, mo_a107, mo_a108, mo_a109, mo_a110, mo_a111, mo_a112, mo_a113, mo_a114, mo_a115, mo_a116, mo_a117, mo_a118, mo_a119, mo_a120, mo_a121, mo_a122, mo_a123, mo_a124, mo_a125, mo_a126, mo_a127, mo_a128, mo_a129, mo_a130, mo_a131, mo_a132, mo_a133, mo_a134, mo_a135, mo_a136, mo_a137, mo_a138, mo_a139, mo_a140, mo_a141, mo_a142, mo_a143, mo_w104, mo_w105, mo_w106, mo_w107, mo_w108, mo_w109, mo_w110, mo_w111, mo_w112, mo_w113, mo_w114, mo_w115, mo_w116, mo_w117, mo_w118, mo_w119, mo_w120, mo_w121, mo_w122, mo_w123, mo_w124, mo_w125, mo_w126, mo_w127, mo_w128, mo_w129, mo_w130, mo_w131, mo_w132, mo_w133, mo_w134, mo_w135, mo_w136, mo_w137, mo_w138, mo_w139, mo_w140, mo_w141, mo_w142, mo_w143, e120', e119', e118', y_more]
  by_cases c : F 7 = 0
  · rw [if_pos c] at ew
    rw [c, if_pos (show nI 0 = 0 from rfl)]
    exact ew
  · rw [if_neg c] at ew
    rw [show F 7 = 1 by omega, if_neg (show ¬ nI 1 = 0 by decide)]
    exact ew
theorem y_ask {a : Int32} {t : ob_S} {s : Nat} {F : Nat → Nat} {B : List Nat} {cn b : Nat} {LL : List (List Nat × Nat)} (h0 : mo_sh t) (h : mo_Sr t s F B a) (hL : mo_Li t LL) (hc : ob_i t 103 5 = nI cn) (hcn : cn < 65536) (hs : s < 2) (ok : sl_ok F B) (so : so_a s F) (hb : (b = 1 ∧ F 6 = 0) ∨ (b = 0 ∧ F 6 ≠ 0)) : ∃ u, X_Mo_ask 103 (nI s) (nI b) t = some u ∧ mo_Asked u t s F B cn LL (af_ask F B cn) := by
  have hF3 : F 3 < 256 := ok.2.1
  have hF7 : F 7 < 2 := ok.2.2.2.2.2.1
  have hF10 : F 10 < 2 := ok.2.2.2.2.2.2.2.2.1
  have e127 := h.2.2.2.2.2.2.2.2.2.2.2.2.1
  have e120 := h.2.2.2.2.2.2.1
  have key : ∀ co, co < 256 → co ≠ 0 → co = (if F 7 = 0 then 1 else 3) → ∃ u, B_Mo_ask_23 103 (nI s) (nI b) (nI B.length) (nI co) 0 103 t = some u ∧ mo_Asked u t s F B cn LL (af_ask F B cn) := by
    intro co hco hco0 hce
    obtain ⟨u1, e1, o1, f1⟩ := y_begin 0 co cn h0 (by omega) hco hcn
    have s1 := o1.1
    have e116 : ob_i u1 116 s = nI (F 3) := (f1.2.2.2.2 _ _ (by omega)).trans h.2.2.1
    obtain ⟨u2, e2, o2, f2⟩ := y_write (v := nI (F 3)) (F 3) o1 rfl (by simp) hF3
    have s2 := o2.1
    have f12 := f1.tr f2
    have sl2 := h.f f12 (fun n j a b => by omega)
    have e121 := sl2.2.2.2.2.2.2.2.1
    have eb : [64 + 16 * 0 + (if co = 0 then 0 else 1), co, cn / 256, cn % 256] ++ [F 3] = aw_begin 0 (if F 7 = 0 then 1 else 3) cn (F 3) := by
      rw [if_neg hco0, aw_begin, ← hce]
      rfl
    rw [eb] at o2
    have hstep : B_Mo_ask_23 103 (nI s) (nI b) (nI B.length) (nI co) 0 103 t = if nI b = 0 then B_Mo_ask_60 103 (nI s) (nI B.length) u2 else if nI (F 10) = 0 then B_Mo_ask_60 103 (nI s) (nI B.length) u2 else (X_Mo_option 103 6 0 u2).bind fun t57 => B_Mo_ask_60 103 (nI s) (nI B.length) t57 := by
      simp (disch := first | assumption | (simp only [mo_shs]; assumption) | omega | (simp; done)) only [B_Mo_ask_23, ob_i_self, ob_i_n, ob_i_k, mo_shs, Option.bind_some, ob_b2_s, mo_this, mo_g, mo_p, mo_r0, mo_r1, mo_r2, mo_r7, mo_r8, mo_r9, mo_r10, mo_r11, mo_r12, mo_r13, mo_r14, mo_r15, mo_r16, mo_r17, mo_r18, mo_r19, mo_r20, mo_r21, mo_r22, mo_r23, mo_r24, mo_r25, mo_r26, mo_r27, mo_r28, mo_r29, mo_r30, mo_r31, mo_r33, mo_r34, mo_r35, mo_r36, mo_r40, mo_r41, mo_r42, mo_r43, mo_r44, mo_r47, mo_r55, mo_r56, mo_a104, mo_a105, mo_a106, mo_a107, mo_a108, mo_a109, mo_a110, mo_a111, mo_a112, mo_a113, mo_a114, mo_a115, mo_a116, mo_a117, mo_a118, mo_a119, mo_a120, mo_a121, mo_a122, mo_a123, mo_a124, mo_a125, mo_a126, mo_a127, mo_a128, mo_a129, mo_a130, mo_a131, mo_a132, mo_a133, mo_a134, mo_a135, mo_a136, mo_a137, mo_a138, mo_a139, mo_a140, mo_a141, mo_a142, mo_a143, mo_w104, mo_w105, mo_w106, mo_w107, mo_w108, mo_w109, mo_w110, mo_w111, mo_w112, mo_w113, mo_w114, mo_w115, mo_w116, mo_w117, mo_w118, mo_w119, mo_w120, mo_w121, mo_w122, mo_w123, mo_w124, mo_w125, mo_w126, mo_w127, mo_w128, mo_w129, mo_w130, mo_w131, mo_w132, mo_w133, mo_w134, mo_w135, mo_w136, mo_w137, mo_w138, mo_w139, mo_w140, mo_w141, mo_w142, mo_w143, hc]
      rw [show X_Mo_begin 103 0 (nI co) (nI cn) t = some u1 from e1]
      simp (disch := first | assumption | (simp only [mo_shs]; assumption) | omega | (simp; done)) only [ob_i_self, ob_i_n, ob_i_k, mo_shs, Option.bind_some, ob_b2_s, mo_this, mo_g, mo_p, mo_r0, mo_r1, mo_r2, mo_r7, mo_r8, mo_r9, mo_r10, mo_r11, mo_r12, mo_r13, mo_r14, mo_r15, mo_r16, mo_r17, mo_r18, mo_r19, mo_r20, mo_r21, mo_r22, mo_r23, mo_r24, mo_r25, mo_r26, mo_r27, mo_r28, mo_r29, mo_r30, mo_r31, mo_r33, mo_r34, mo_r35, mo_r36, mo_r40, mo_r41, mo_r42, mo_r43, mo_r44, mo_r47, mo_r55, mo_r56, mo_a104, mo_a105, mo_a106, mo_a107, mo_a108, mo_a109, mo_a110, mo_a111, mo_a112, mo_a113, mo_a114, mo_a115, mo_a116, mo_a117, mo_a118, mo_a119, mo_a120, mo_a121, mo_a122, mo_a123, mo_a124, mo_a125, mo_a126, mo_a127, mo_a128, mo_a129, mo_a130, mo_a131, mo_a132, mo_a133, mo_a134, mo_a135, mo_a136, mo_a137, mo_a138, mo_a139, mo_a140, mo_a141, mo_a142, mo_a143, mo_w104, mo_w105, mo_w106, mo_w107, mo_w108, mo_w109, mo_w110, mo_w111, mo_w112, mo_w113, mo_w114, mo_w115, mo_w116, mo_w117, mo_w118, mo_w119, mo_w120, mo_w121, mo_w122, mo_w123, mo_w124, mo_w125, mo_w126, mo_w127, mo_w128, mo_w129, mo_w130, mo_w131, mo_w132, mo_w133, mo_w134, mo_w135, mo_w136, mo_w137, mo_w138, mo_w139, mo_w140, mo_w141, mo_w142, mo_w143, e116]
      rw [e2]
      simp (disch := first | assumption | (simp only [mo_shs]; assumption) | omega | (simp; done)) only [ob_i_self, ob_i_n, ob_i_k, mo_shs, Option.bind_some, ob_b2_s, mo_this, mo_g, mo_p, mo_r0, mo_r1, mo_r2, mo_r7, mo_r8, mo_r9, mo_r10, mo_r11, mo_r12, mo_r13, mo_r14, mo_r15, mo_r16, mo_r17, mo_r18, mo_r19, mo_r20, mo_r21, mo_r22, mo_r23, mo_r24, mo_r25, mo_r26, mo_r27, mo_r28, mo_r29, mo_r30, mo_r31, mo_r33, mo_r34, mo_r35, mo_r36, mo_r40, mo_r41, mo_r42, mo_r43, mo_r44, mo_r47, mo_r55, mo_r56, mo_a104, mo_a105, mo_a106, mo_a107, mo_a108, mo_a109, mo_a110, mo_a111, mo_a112, mo_a113, mo_a114, mo_a115, mo_a116, mo_a117, mo_a118, mo_a119, mo_a120, mo_a121, mo_a122, mo_a123, mo_a124, mo_a125, mo_a126, mo_a127, mo_a128, mo_a129, mo_a130, mo_a131, mo_a132, mo_a133, mo_a134, mo_a135, mo_a136, mo_a137, mo_a138, mo_a139, mo_a140, mo_a141, mo_a142, mo_a143, mo_w104, mo_w105, mo_w106, mo_w107, mo_w108, mo_w109, mo_w110, mo_w111, mo_w112, mo_w113, mo_w114, mo_w115, mo_w116, mo_w117, mo_w118, mo_w119, mo_w120, mo_w121, mo_w122, mo_w123, mo_w124, mo_w125, mo_w126, mo_w127, mo_w128, mo_w129, mo_w130, mo_w131, mo_w132, mo_w133, mo_w134, mo_w135, mo_w136, mo_w137, mo_w138, mo_w139, mo_w140, mo_w141, mo_w142, mo_w143, e121]
    rw [hstep, af_ask, aw_pre]
    by_cases c : F 10 ≠ 0 ∧ F 6 = 0
    · have hb1 : b = 1 := by omega
      obtain ⟨u3, e3, o3, f3⟩ := y_option 6 0 o2 (by omega) (by omega) (by omega) (by simp [aw_begin])
      obtain ⟨w, ew, q1, q2, q3, q4, q5⟩ := y_ask60 (sl2.f f3 (fun n j a b => by omega)) o3 ((hL.f f12 (fun n j a b => by omega)).f f3 (fun n j a b => by omega)) (((f12.tr f3).2.2.2.2 _ _ (by omega)).trans hc) hcn hs (by simp [aw_begin, aw_head, aw_val]) (Or.inr rfl) ok so
      rw [hb1, if_neg (show ¬ nI 1 = 0 by decide), if_neg (nI_ne0 (by omega) (by omega)), if_pos c]
      rw [show X_Mo_option 103 6 0 u2 = some u3 from e3, Option.bind_some]
      have er : aw_begin 0 (if F 7 = 0 then 1 else 3) cn (F 3) ++ aw_head 0 6 (aw_n 0) ++ aw_val 0 ++ aw_path 6 (F 4) ++ aw_blk F B = aw_begin 0 (if F 7 = 0 then 1 else 3) cn (F 3) ++ (aw_head 0 6 0 ++ aw_path 6 (F 4)) ++ aw_blk F B := by
        rw [show aw_val 0 = [] from rfl, show aw_n 0 = 0 from rfl]
        simp [List.append_assoc]
      rw [er] at q2 q4
      exact ⟨w, ew, q1, q2, q3, q4, ((f12.tr f3).mono (fun n j z => Or.inl z)).tr q5⟩
    · obtain ⟨w, ew, q1, q2, q3, q4, q5⟩ := y_ask60 sl2 o2 (hL.f f12 (fun n j a b => by omega)) ((f12.2.2.2.2 _ _ (by omega)).trans hc) hcn hs (by simp [aw_begin]) (Or.inl rfl) ok so
      rw [if_neg c]
      refine ⟨w, ?_, q1, q2, q3, q4, (f12.mono (fun n j z => Or.inl z)).tr q5⟩
      by_cases d : b = 0
      · rw [d, if_pos (show nI 0 = 0 from rfl)]
        exact ew
      · rw [if_neg (nI_ne0 (by omega) (by omega)), if_pos (by rw [show F 10 = 0 by omega]; rfl)]
        exact ew
  simp (disch := first | assumption | (simp only [mo_shs]; assumption) | omega | (simp; done)) only [X_Mo_ask, ob_i_self, ob_i_n, ob_i_k, mo_shs, Option.bind_some, ob_b2_s, mo_this, mo_g, mo_p, mo_r0, mo_r1, mo_r2, mo_r7, mo_r8, mo_r9, mo_r10, mo_r11, mo_r12, mo_r13, mo_r14, mo_r15, mo_r16, mo_r17, mo_r18, mo_r19, mo_r20, mo_r21, mo_r22, mo_r23, mo_r24, mo_r25, mo_r26, mo_r27, mo_r28, mo_r29, mo_r30, mo_r31, mo_r33, mo_r34, mo_r35, mo_r36, mo_r40, mo_r41, mo_r42, mo_r43, mo_r44, mo_r47, mo_r55, mo_r56, mo_a104, mo_a105, mo_a106, mo_a107, mo_a108, mo_a109, mo_a110, mo_a111, mo_a112, mo_a113, mo_a114, mo_a115, mo_a116, mo_a117, mo_a118, mo_a119, mo_a120, mo_a121, mo_a122, mo_a123, mo_a124, mo_a125, mo_a126, mo_a127, mo_a128, mo_a129, mo_a130, mo_a131, mo_a132, mo_a133, mo_a134, mo_a135, mo_a136, mo_a137, mo_a138, mo_a139, mo_a140, mo_a141, mo_a142, mo_a143, mo_w104, mo_w105, mo_w106, mo_w107, mo_w108, mo_w109, mo_w110, mo_w111, mo_w112, mo_w113, mo_w114, mo_w115, mo_w116, mo_w117, mo_w118, mo_w119, mo_w120, mo_w121, mo_w122, mo_w123, mo_w124, mo_w125, mo_w126, mo_w127, mo_w128, mo_w129, mo_w130, mo_w131, mo_w132, mo_w133, mo_w134, mo_w135, mo_w136, mo_w137, mo_w138, mo_w139, mo_w140, mo_w141, mo_w142, mo_w143, e127, e120]
  by_cases c : F 7 = 0
  · rw [c, if_pos (show nI 0 = 0 from rfl)]
    exact key 1 (by omega) (by omega) (by rw [if_pos c])
  · rw [if_neg (nI_ne0 (by omega) (by omega))]
    exact key 3 (by omega) (by omega) (by rw [if_neg c])

/-! LAYER 2, 36: the reference's client takes an answer -/
theorem so_cg {s : Nat} {F G : Nat → Nat} (h : so_a s F) (e8 : G 8 = F 8) (e3 : G 3 = F 3) (e7 : G 7 = F 7) (e10 : G 10 = F 10) (e11 : G 11 = F 11) (e12 : G 12 = F 12) : so_a s G := by
  obtain ⟨h1, h2, h3, h4⟩ := h
  exact ⟨by rw [e8]; exact h1, by rw [e3]; exact h2, by rw [e7, e10, e11]; exact h3, by rw [e11, e12]; exact h4⟩
theorem so_up {s : Nat} {F : Nat → Nat} (h : so_a s F) (k x : Nat) (hk : k = 2 ∨ k = 6 ∨ k = 13 ∨ k = 9 ∨ k = 4 ∨ k = 5) : so_a s (va_up F k x) := so_cg h (va_up_ne _ _ (by omega)) (va_up_ne _ _ (by omega)) (va_up_ne _ _ (by omega)) (va_up_ne _ _ (by omega)) (va_up_ne _ _ (by omega)) (va_up_ne _ _ (by omega))
theorem so_on {s b : Nat} {F : Nat → Nat} (h : so_a s F) : so_a s (sl_on F b) := by
  unfold sl_on
  split
  · exact so_up h _ _ (by omega)
  · exact so_up h _ _ (by omega)
theorem so_blk {s : Nat} {F : Nat → Nat} {w : Option Nat} (h : so_a s F) (h7 : F 7 = 0) : so_a s (sl_blk F w) := by
  unfold sl_blk
  split
  · exact ⟨by simpa [va_up] using h.1, by simpa [va_up] using h.2.1, fun z => absurd h7 (by simpa [va_up] using z), fun z => by simp [va_up] at z⟩
  · exact h
theorem mo_Sr.cut {t : ob_S} {s : Nat} {F : Nat → Nat} {B : List Nat} {a : Int32} (h : mo_Sr t s F B a) (k x : Nat) (hx : x = (B.take k).length) : mo_Sr (ob_setI t 127 s (nI x)) s F (B.take k) a := by
  obtain ⟨h1, h2, h3, h4, h5, h6, h7, h8, h9, h10, h11, h12, h13, h14, h15⟩ := h
  refine ⟨by rw [ob_i_n (by omega)]; exact h1, by rw [ob_i_n (by omega)]; exact h2, by rw [ob_i_n (by omega)]; exact h3, by rw [ob_i_n (by omega)]; exact h4, by rw [ob_i_n (by omega)]; exact h5, by rw [ob_i_n (by omega)]; exact h6, by rw [ob_i_n (by omega)]; exact h7, by rw [ob_i_n (by omega)]; exact h8, by rw [ob_i_n (by omega)]; exact h9, by rw [ob_i_n (by omega)]; exact h10, by rw [ob_i_n (by omega)]; exact h11, by rw [ob_i_n (by omega)]; exact h12, by rw [ob_i_self, hx], fun i hi => ?_, by rw [List.length_take]; omega⟩
  rw [List.length_take] at hi
  rw [ob_i_n (by omega), h14 i (by omega), List.getD_eq_getElem?_getD, List.getD_eq_getElem?_getD, List.getElem?_take_of_lt (by omega)]
theorem y_ans170 {t u : ob_S} {c : cl_S} {s : Nat} {F : Nat → Nat} {B : List Nat} {a : Int32} {b : Nat} (hS : mo_sh t) (h : mo_Ci t c) (f : mo_F (dSP s) t u) (hs : s < 2) (hr : mo_Sr u s F B a) (hp : mo_Pe u s none) (hb : ob_i u 103 57 = nI b) (hb2 : b < 1024) (ok : sl_ok (sl_on F b) B) (so : so_a s F) : ∃ w, B_Mo_answered_170 103 (nI s) u = some w ∧ mo_Ci w (if b / 8 % 2 = 1 then cl_ask (cl_set c s (sl_on F b) B none) s else cl_set c s (sl_on F b) B none) ∧ mo_F dCl t w := by
  have s1 := hS.f f
  have e119 := hr.2.2.2.2.2.1
  have eb : (nI b / 8) - (nI b / 8) / 2 * 2 = nI (b / 8 % 2) := by
    rw [show (8 : Int32) = nI 8 from rfl, show (2 : Int32) = nI 2 from rfl, pk_div (by omega) (by omega) (by omega), pk_rem (by omega) (by omega) (by omega)]
  simp (disch := first | assumption | (simp only [mo_shs]; assumption) | omega | (simp; done)) only [B_Mo_answered_170, ob_i_self, ob_i_n, ob_i_k, mo_shs, Option.bind_some, ob_b2_s, mo_this, mo_g, mo_p, mo_r0, mo_r1, mo_r2, mo_r7, mo_r8, mo_r9, mo_r10, mo_r11, mo_r12, mo_r13, mo_r14, mo_r15, mo_r16, mo_r17, mo_r18, mo_r19, mo_r20, mo_r21, mo_r22, mo_r23, mo_r24, mo_r25, mo_r26, mo_r27, mo_r28, mo_r29, mo_r30, mo_r31, mo_r33, mo_r34, mo_r35, mo_r36, mo_r40, mo_r41, mo_r42, mo_r43, mo_r44, mo_r47, mo_r55, mo_r56, mo_a104, mo_a105, mo_a106, mo_a107, mo_a108, mo_a109, mo_a110, mo_a111, mo_a112, mo_a113, mo_a114, mo_a115, mo_a116, mo_a117, mo_a118, mo_a119, mo_a120, mo_a121, mo_a122, mo_a123, mo_a124, mo_a125, mo_a126, mo_a127, mo_a128, mo_a129, mo_a130, mo_a131, mo_a132, mo_a133, mo_a134, mo_a135, mo_a136, mo_a137, mo_a138, mo_a139, mo_a140, mo_a141, mo_a142, mo_a143, mo_w104, mo_w105, mo_w106, mo_w107, mo_w108, mo_w109, mo_w110, mo_w111, mo_w112, mo_w113, mo_w114, mo_w115, mo_w116, mo_w117, mo_w118, mo_w119, mo_w120, mo_w121, mo_w122, mo_w123, mo_w124, mo_w125, mo_w126, mo_w127, mo_w128, mo_w129, mo_w130, mo_w131, mo_w132, mo_w133, mo_w134, mo_w135, mo_w136, mo_w137, mo_w138, mo_w139, mo_w140, mo_w141, mo_w142, mo_w143, hb, e119, eb, nI_1]
  by_cases d : b / 8 % 2 = 1
  · have es : sl_on F b = va_up F 6 (F 6 + 1) := by rw [sl_on, if_neg (by omega)]
    rw [es] at ok ⊢
    have f2 : mo_F (dSP s) t (ob_setI u 119 s (nI (F 6 + 1))) := f.s (by omega)
    obtain ⟨w, ew, q1, q2⟩ := y_askC (b := 0) (o := none) hS h f2 hs (hr.set 6 119 (F 6 + 1) (by simp)) ok (so_up so _ _ (by omega)) (Or.inr ⟨rfl, by rw [va_up_self]; omega⟩)
    refine ⟨w, ?_, by rw [if_pos d]; exact q1, q2⟩
    rw [if_neg (show ¬ ¬ nI (b / 8 % 2) = (1 : Int32) from fun z => z (by rw [d]; rfl)), show X_Mo_ask 103 (nI s) 0 (ob_setI u 119 s (nI (F 6 + 1))) = some w from ew]
    rfl
  · have es : sl_on F b = va_up F 2 2 := by rw [sl_on, if_pos (by omega)]
    rw [es] at ok ⊢
    have f2 : mo_F (dSP s) t (ob_setI u 114 s (nI 2)) := f.s (by omega)
    refine ⟨ob_setI u 114 s (nI 2), ?_, ?_, f2.mono (fun n j z => by omega)⟩
    · rw [if_pos (show ¬ nI (b / 8 % 2) = (1 : Int32) from fun z => d ((nI_eq (b := 1) (by omega) (by omega)).mp z))]
      rfl
    · rw [if_neg d]
      exact h.st f2 hs (mo_Sl.mk (hr.set 2 114 2 (by simp)) (by rw [va_up_self]; omega) (by rw [va_up_self]; omega) ok (so_up so _ _ (by omega))) (hp.f (mo_F.o (D := fun n j => n = 114 ∧ j = s) ⟨rfl, rfl⟩) (fun n j a b => by omega))
theorem y_ans212 {t u : ob_S} {c : cl_S} {s : Nat} {a : Int32} {ty code id : Nat} {tok w b2 b1 : Option Nat} {P : List Nat} (hS : mo_sh t) (h : mo_Ci t c) (f : mo_F (dSP s) t u) (hs : s < 2) (hr : mo_Sr u s (c.1 s) (c.2.1 s) a) (hp : mo_Pe u s none) (ha : c.1 s 7 ≠ 0 → a = nI (af_more (c.2.1 s).length (c.1 s 6) (c.1 s 5))) (ok : sl_ok (c.1 s) (c.2.1 s)) (so : so_a s (c.1 s)) (hc : ob_i u 103 50 = nI code) (hm : ms_ok ty code id tok w b2 b1 P) (hn : ¬ (c.1 s 7 = 0 ∧ code = 69 ∧ sl_due (c.1 s) b2 P)) : ∃ v, B_Mo_answered_212 103 (nI s) u = some v ∧ mo_Ci v (cl_ansS c s code w b2 P) ∧ mo_F dCl t v := by
  have s1 := hS.f f
  have oks := sl_ans_ok ok hm
  have hco := hm.2.1
  have o7 := ok.2.2.2.2.2.1
  have e120 := hr.2.2.2.2.2.2.1
  have e119 := hr.2.2.2.2.2.1
  have e125 := hr.2.2.2.2.2.2.2.2.2.2.2.1
  have rest : ¬ (c.1 s 7 ≠ 0 ∧ code = 95 ∧ af_more (c.2.1 s).length (c.1 s 6) (c.1 s 5) = 1) → ∃ v, B_Mo_answered_258 103 (nI s) u = some v ∧ mo_Ci v (cl_ansS c s code w b2 P) ∧ mo_F dCl t v := by
    intro hn2
    by_cases c2 : c.1 s 7 ≠ 0 ∧ code = 68
    · have es : sl_ans (c.1 s) (c.2.1 s) code w b2 P = (va_up (c.1 s) 2 2, c.2.1 s, 0) := by rw [sl_ans, if_neg hn, if_neg hn2, if_pos c2]
      rw [es] at oks
      have f2 : mo_F (dSP s) t (ob_setI u 114 s (nI 2)) := f.s (by omega)
      refine ⟨ob_setI u 114 s (nI 2), ?_, ?_, f2.mono (fun n j z => by omega)⟩
      · simp (disch := first | assumption | (simp only [mo_shs]; assumption) | omega | (simp; done)) only [B_Mo_answered_258, ob_i_self, ob_i_n, ob_i_k, mo_shs, Option.bind_some, ob_b2_s, mo_this, mo_g, mo_p, mo_r0, mo_r1, mo_r2, mo_r7, mo_r8, mo_r9, mo_r10, mo_r11, mo_r12, mo_r13, mo_r14, mo_r15, mo_r16, mo_r17, mo_r18, mo_r19, mo_r20, mo_r21, mo_r22, mo_r23, mo_r24, mo_r25, mo_r26, mo_r27, mo_r28, mo_r29, mo_r30, mo_r31, mo_r33, mo_r34, mo_r35, mo_r36, mo_r40, mo_r41, mo_r42, mo_r43, mo_r44, mo_r47, mo_r55, mo_r56, mo_a104, mo_a105, mo_a106, mo_a107, mo_a108, mo_a109, mo_a110, mo_a111, mo_a112, mo_a113, mo_a114, mo_a115, mo_a116, mo_a117, mo_a118, mo_a119, mo_a120, mo_a121, mo_a122, mo_a123, mo_a124, mo_a125, mo_a126, mo_a127, mo_a128, mo_a129, mo_a130, mo_a131, mo_a132, mo_a133, mo_a134, mo_a135, mo_a136, mo_a137, mo_a138, mo_a139, mo_a140, mo_a141, mo_a142, mo_a143, mo_w104, mo_w105, mo_w106, mo_w107, mo_w108, mo_w109, mo_w110, mo_w111, mo_w112, mo_w113, mo_w114, mo_w115, mo_w116, mo_w117, mo_w118, mo_w119, mo_w120, mo_w121, mo_w122, mo_w123, mo_w124, mo_w125, mo_w126, mo_w127, mo_w128, mo_w129, mo_w130, mo_w131, mo_w132, mo_w133, mo_w134, mo_w135, mo_w136, mo_w137, mo_w138, mo_w139, mo_w140, mo_w141, mo_w142, mo_w143, hc, e120]
        rw [if_neg (show ¬ ¬ nI code = (68 : Int32) from fun z => z (by rw [c2.2]; rfl)), if_neg (nI_ne0 (by omega) (by omega))]
        rfl
      · rw [cl_ansS, es, if_neg (show ¬ (0 : Nat) = 1 by decide)]
        exact h.st f2 hs (mo_Sl.mk (hr.set 2 114 2 (by simp)) (show va_up (c.1 s) 2 2 2 ≠ 0 by rw [va_up_self]; omega) (show va_up (c.1 s) 2 2 2 ≠ 1 by rw [va_up_self]; omega) oks (so_up so _ _ (by omega))) (hp.f (mo_F.o (D := fun n j => n = 114 ∧ j = s) ⟨rfl, rfl⟩) (fun n j a b => by omega))
    · have es : sl_ans (c.1 s) (c.2.1 s) code w b2 P = (va_up (va_up (c.1 s) 2 4) 13 code, c.2.1 s, 0) := by rw [sl_ans, if_neg hn, if_neg hn2, if_neg c2]
      rw [es] at oks
      have f1 : mo_F (fun n j => (n = 114 ∨ n = 124) ∧ j = s) u (ob_setI (ob_setI u 114 s (nI 4)) 124 s (nI code)) := (mo_F.o (by omega)).s (by omega)
      have f2 : mo_F (dSP s) t (ob_setI (ob_setI u 114 s (nI 4)) 124 s (nI code)) := (f.s (by omega)).s (by omega)
      have hc2 : ob_i (ob_setI u 114 s 4) 103 50 = nI code := by rw [ob_i_n (by omega)]; exact hc
      have k : B_Mo_answered_286 103 (nI s) u = some (ob_setI (ob_setI u 114 s (nI 4)) 124 s (nI code)) := by
        simp (disch := first | assumption | (simp only [mo_shs]; assumption) | omega | (simp; done)) only [B_Mo_answered_286, ob_i_self, ob_i_n, ob_i_k, mo_shs, Option.bind_some, ob_b2_s, mo_this, mo_g, mo_p, mo_r0, mo_r1, mo_r2, mo_r7, mo_r8, mo_r9, mo_r10, mo_r11, mo_r12, mo_r13, mo_r14, mo_r15, mo_r16, mo_r17, mo_r18, mo_r19, mo_r20, mo_r21, mo_r22, mo_r23, mo_r24, mo_r25, mo_r26, mo_r27, mo_r28, mo_r29, mo_r30, mo_r31, mo_r33, mo_r34, mo_r35, mo_r36, mo_r40, mo_r41, mo_r42, mo_r43, mo_r44, mo_r47, mo_r55, mo_r56, mo_a104, mo_a105, mo_a106, mo_a107, mo_a108, mo_a109, mo_a110, mo_a111, mo_a112, mo_a113, mo_a114, mo_a115, mo_a116, mo_a117, mo_a118, mo_a119, mo_a120, mo_a121, mo_a122, mo_a123, mo_a124, mo_a125, mo_a126, mo_a127, mo_a128, mo_a129, mo_a130, mo_a131, mo_a132, mo_a133, mo_a134, mo_a135, mo_a136, mo_a137, mo_a138, mo_a139, mo_a140, mo_a141, mo_a142, mo_a143, mo_w104, mo_w105, mo_w106, mo_w107, mo_w108, mo_w109, mo_w110, mo_w111, mo_w112, mo_w113, mo_w114, mo_w115, mo_w116, mo_w117, mo_w118, mo_w119, mo_w120, mo_w121, mo_w122, mo_w123, mo_w124, mo_w125, mo_w126, mo_w127, mo_w128, mo_w129, mo_w130, mo_w131, mo_w132, mo_w133, mo_w134, mo_w135, mo_w136, mo_w137, mo_w138, mo_w139, mo_w140, mo_w141, mo_w142, mo_w143, hc2]
        rfl
      refine ⟨ob_setI (ob_setI u 114 s (nI 4)) 124 s (nI code), ?_, ?_, f2.mono (fun n j z => by omega)⟩
      · simp (disch := first | assumption | (simp only [mo_shs]; assumption) | omega | (simp; done)) only [B_Mo_answered_258, ob_i_self, ob_i_n, ob_i_k, mo_shs, Option.bind_some, ob_b2_s, mo_this, mo_g, mo_p, mo_r0, mo_r1, mo_r2, mo_r7, mo_r8, mo_r9, mo_r10, mo_r11, mo_r12, mo_r13, mo_r14, mo_r15, mo_r16, mo_r17, mo_r18, mo_r19, mo_r20, mo_r21, mo_r22, mo_r23, mo_r24, mo_r25, mo_r26, mo_r27, mo_r28, mo_r29, mo_r30, mo_r31, mo_r33, mo_r34, mo_r35, mo_r36, mo_r40, mo_r41, mo_r42, mo_r43, mo_r44, mo_r47, mo_r55, mo_r56, mo_a104, mo_a105, mo_a106, mo_a107, mo_a108, mo_a109, mo_a110, mo_a111, mo_a112, mo_a113, mo_a114, mo_a115, mo_a116, mo_a117, mo_a118, mo_a119, mo_a120, mo_a121, mo_a122, mo_a123, mo_a124, mo_a125, mo_a126, mo_a127, mo_a128, mo_a129, mo_a130, mo_a131, mo_a132, mo_a133, mo_a134, mo_a135, mo_a136, mo_a137, mo_a138, mo_a139, mo_a140, mo_a141, mo_a142, mo_a143, mo_w104, mo_w105, mo_w106, mo_w107, mo_w108, mo_w109, mo_w110, mo_w111, mo_w112, mo_w113, mo_w114, mo_w115, mo_w116, mo_w117, mo_w118, mo_w119, mo_w120, mo_w121, mo_w122, mo_w123, mo_w124, mo_w125, mo_w126, mo_w127, mo_w128, mo_w129, mo_w130, mo_w131, mo_w132, mo_w133, mo_w134, mo_w135, mo_w136, mo_w137, mo_w138, mo_w139, mo_w140, mo_w141, mo_w142, mo_w143, hc, e120, k]
        by_cases c3 : code = 68
        · rw [if_neg (show ¬ ¬ nI code = (68 : Int32) from fun z => z (by rw [c3]; rfl)), if_pos (show nI (c.1 s 7) = 0 by rw [show c.1 s 7 = 0 by omega]; rfl)]
        · rw [if_pos (show ¬ nI code = (68 : Int32) from fun z => c3 ((nI_eq (b := 68) (by omega) (by omega)).mp z))]
      · rw [cl_ansS, es, if_neg (show ¬ (0 : Nat) = 1 by decide)]
        exact h.st f2 hs (mo_Sl.mk ((hr.set 2 114 4 (by simp)).set 13 124 code (by simp)) (show va_up (va_up (c.1 s) 2 4) 13 code 2 ≠ 0 by rw [va_up_ne _ _ (by omega), va_up_self]; omega) (show va_up (va_up (c.1 s) 2 4) 13 code 2 ≠ 1 by rw [va_up_ne _ _ (by omega), va_up_self]; omega) oks (so_up (so_up so _ _ (by omega)) _ _ (by omega))) (hp.f f1 (fun n j a b => by omega))
  simp (disch := first | assumption | (simp only [mo_shs]; assumption) | omega | (simp; done)) only [B_Mo_answered_212, ob_i_self, ob_i_n, ob_i_k, mo_shs, Option.bind_some, ob_b2_s, mo_this, mo_g, mo_p, mo_r0, mo_r1, mo_r2, mo_r7, mo_r8, mo_r9, mo_r10, mo_r11, mo_r12, mo_r13, mo_r14, mo_r15, mo_r16, mo_r17, mo_r18, mo_r19, mo_r20, mo_r21, mo_r22, mo_r23, mo_r24, mo_r25, mo_r26, mo_r27, mo_r28, mo_r29, mo_r30, mo_r31, mo_r33, mo_r34, mo_r35, mo_r36, mo_r40, mo_r41, mo_r42, mo_r43, mo_r44, mo_r47, mo_r55, mo_r56, mo_a104, mo_a105, mo_a106, mo_a107, mo_a108, mo_a109, mo_a110, mo_a111, mo_a112, mo_a113, mo_a114, mo_a115, mo_a116, mo_a117, mo_a118, mo_a119, mo_a120, mo_a121, mo_a122, mo_a123, mo_a124, mo_a125, mo_a126, mo_a127, mo_a128, mo_a129, mo_a130, mo_a131, mo_a132, mo_a133, mo_a134, mo_a135, mo_a136, mo_a137, mo_a138, mo_a139, mo_a140, mo_a141, mo_a142, mo_a143, mo_w104, mo_w105, mo_w106, mo_w107, mo_w108, mo_w109, mo_w110, mo_w111, mo_w112, mo_w113, mo_w114, mo_w115, mo_w116, mo_w117, mo_w118, mo_w119, mo_w120, mo_w121, mo_w122, mo_w123, mo_w124, mo_w125, mo_w126, mo_w127, mo_w128, mo_w129, mo_w130, mo_w131, mo_w132, mo_w133, mo_w134, mo_w135, mo_w136, mo_w137, mo_w138, mo_w139, mo_w140, mo_w141, mo_w142, mo_w143, hc, e120, e125, e119, nI_1]
  by_cases c95 : code = 95
  · rw [if_neg (show ¬ ¬ nI code = (95 : Int32) from fun z => z (by rw [c95]; rfl))]
    by_cases c7 : c.1 s 7 = 0
    · rw [if_pos (show nI (c.1 s 7) = 0 by rw [c7]; rfl)]
      exact rest (fun z => z.1 c7)
    · rw [if_neg (nI_ne0 (by omega) (by omega)), ha c7]
      have hml := af_more_lt (c.2.1 s).length (c.1 s 6) (c.1 s 5)
      by_cases cm : af_more (c.2.1 s).length (c.1 s 6) (c.1 s 5) = 1
      · rw [cm, if_neg (by decide)]
        have es : sl_ans (c.1 s) (c.2.1 s) code w b2 P = (va_up (c.1 s) 6 (c.1 s 6 + 1), c.2.1 s, 1) := by rw [sl_ans, if_neg hn, if_pos ⟨c7, c95, cm⟩]
        rw [es] at oks
        have f2 : mo_F (dSP s) t (ob_setI u 119 s (nI (c.1 s 6 + 1))) := f.s (by omega)
        obtain ⟨v, ew, q1, q2⟩ := y_askC (b := 0) (o := none) hS h f2 hs (hr.set 6 119 (c.1 s 6 + 1) (by simp)) oks (so_up so _ _ (by omega)) (Or.inr ⟨rfl, show va_up (c.1 s) 6 (c.1 s 6 + 1) 6 ≠ 0 by rw [va_up_self]; omega⟩)
        refine ⟨v, ?_, by rw [cl_ansS, es, if_pos rfl]; exact q1, q2⟩
        rw [show X_Mo_ask 103 (nI s) 0 (ob_setI u 119 s (nI (c.1 s 6 + 1))) = some v from ew]
        rfl
      · rw [show af_more (c.2.1 s).length (c.1 s 6) (c.1 s 5) = 0 by omega, if_pos (by decide)]
        exact rest (fun z => cm z.2.2)
  · rw [if_pos (show ¬ nI code = (95 : Int32) from fun z => c95 ((nI_eq (b := 95) (by omega) (by omega)).mp z))]
    exact rest (fun z => c95 z.2.1)

/-! LAYER 2, 37: the reference's client takes an answer, 2; news -/
section YCL
variable {t : ob_S} {c : cl_S} {s ty code id : Nat} {tok w b2 b1 : Option Nat} {S : List (List Nat)} {P : List Nat}
theorem y_ans131 {u : ob_S} {a : Int32} {b x : Nat} (hS : mo_sh t) (h : mo_Ci t c) (f : mo_F (dSP s) t u) (hs : s < 2) (hr : mo_Sr u s (c.1 s) (c.2.1 s) a) (hp : mo_Pe u s none) (ok : sl_ok (c.1 s) (c.2.1 s)) (so : so_a s (c.1 s)) (hm : mo_Mm u ty code id tok w (some b) b1 S P) (h7 : c.1 s 7 = 0) (hc : code = 69) (hd : sl_due (c.1 s) (some b) P) (hx : x = ((c.2.1 s).take (c.1 s 6 * af_size (c.1 s 5))).length) : ∃ v, B_Mo_answered_131 103 (nI s) (nI x) (nI s) 127 u = some v ∧ mo_Ci v (cl_ansS c s code w (some b) P) ∧ mo_F dCl t v := by
  have s1 := hS.f f
  obtain ⟨g49, g50, g51, g52, g53, g57, g58, gP, gS, mok, sok⟩ := hm
  have hb1 : b < 1024 := by have := mok.2.2.2.2.2.1 b rfl; omega
  have es : sl_ans (c.1 s) (c.2.1 s) code w (some b) P = (sl_on (sl_blk (c.1 s) w) b, (c.2.1 s).take (c.1 s 6 * af_size (c.1 s 5)) ++ P, b / 8 % 2) := by
    rw [sl_ans, if_pos ⟨h7, hc, hd⟩]
    rfl
  have oks := sl_ans_ok (w := w) ok mok
  rw [es] at oks
  have fo2 : mo_F (fun n j => n = 127 ∧ j = s) u (ob_setI u 127 s (nI x)) := mo_F.o ⟨rfl, rfl⟩
  have hr2 := hr.cut (c.1 s 6 * af_size (c.1 s 5)) x hx
  have gP2 := gP.f fo2 (fun n j a b => by omega)
  have hl : ((c.2.1 s).take (c.1 s 6 * af_size (c.1 s 5))).length + P.length ≤ 80 := by
    have := hd.2.2.2
    rw [List.length_take]
    omega
  obtain ⟨t3, e3, r3, f3⟩ := y_append (s1.f fo2) hr2 gP2 hs hl
  have f03 : mo_F (fun n j => (n = 127 ∧ j = s) ∨ (n = 126 ∧ 80 * s ≤ j ∧ j < 80 * s + 80)) u t3 := (fo2.mono (fun n j z => Or.inl z)).tr f3
  have ft3 : mo_F (dSP s) t t3 := f.tr (f03.mono (fun n j z => by omega))
  have s3 := hS.f ft3
  have g53' : ob_i t3 103 53 = oI w := (f03.2.2.2.2 _ _ (by omega)).trans g53
  have g57' : ob_i t3 103 57 = nI b := (f03.2.2.2.2 _ _ (by omega)).trans g57
  have e121 := r3.2.2.2.2.2.2.2.1
  have hp3 := hp.f f03 (fun n j a b => by omega)
  have o10 := ok.2.2.2.2.2.2.2.2.1
  have eR : cl_ansS c s code w (some b) P = if b / 8 % 2 = 1 then cl_ask (cl_set c s (sl_on (sl_blk (c.1 s) w) b) ((c.2.1 s).take (c.1 s 6 * af_size (c.1 s 5)) ++ P) none) s else cl_set c s (sl_on (sl_blk (c.1 s) w) b) ((c.2.1 s).take (c.1 s 6 * af_size (c.1 s 5)) ++ P) none := by
    rw [cl_ansS, es]
  rw [eR]
  simp (disch := first | assumption | (simp only [mo_shs]; assumption) | omega | (simp; done)) only [B_Mo_answered_131, ob_i_self, ob_i_n, ob_i_k, mo_shs, Option.bind_some, ob_b2_s, mo_this, mo_g, mo_p, mo_r0, mo_r1, mo_r2, mo_r7, mo_r8, mo_r9, mo_r10, mo_r11, mo_r12, mo_r13, mo_r14, mo_r15, mo_r16, mo_r17, mo_r18, mo_r19, mo_r20, mo_r21, mo_r22, mo_r23, mo_r24, mo_r25, mo_r26, mo_r27, mo_r28, mo_r29, mo_r30, mo_r31, mo_r33, mo_r34, mo_r35, mo_r36, mo_r40, mo_r41, mo_r42, mo_r43, mo_r44, mo_r47, mo_r55, mo_r56, mo_a104, mo_a105, mo_a106, mo_a107, mo_a108, mo_a109, mo_a110, mo_a111, mo_a112, mo_a113, mo_a114, mo_a115, mo_a116, mo_a117, mo_a118, mo_a119, mo_a120, mo_a121, mo_a122, mo_a123, mo_a124, mo_a125, mo_a126, mo_a127, mo_a128, mo_a129, mo_a130, mo_a131, mo_a132, mo_a133, mo_a134, mo_a135, mo_a136, mo_a137, mo_a138, mo_a139, mo_a140, mo_a141, mo_a142, mo_a143, mo_w104, mo_w105, mo_w106, mo_w107, mo_w108, mo_w109, mo_w110, mo_w111, mo_w112, mo_w113, mo_w114, mo_w115, mo_w116, mo_w117, mo_w118, mo_w119, mo_w120, mo_w121, mo_w122, mo_w123, mo_w124, mo_w125, mo_w126, mo_w127, mo_w128, mo_w129, mo_w130, mo_w131, mo_w132, mo_w133, mo_w134, mo_w135, mo_w136, mo_w137, mo_w138, mo_w139, mo_w140, mo_w141, mo_w142, mo_w143]
  rw [show X_Mo_append 103 (nI s) (ob_setI u 127 s (nI x)) = some t3 from e3]
  simp (disch := first | assumption | (simp only [mo_shs]; assumption) | omega | (simp; done)) only [ob_i_self, ob_i_n, ob_i_k, mo_shs, Option.bind_some, ob_b2_s, mo_this, mo_g, mo_p, mo_r0, mo_r1, mo_r2, mo_r7, mo_r8, mo_r9, mo_r10, mo_r11, mo_r12, mo_r13, mo_r14, mo_r15, mo_r16, mo_r17, mo_r18, mo_r19, mo_r20, mo_r21, mo_r22, mo_r23, mo_r24, mo_r25, mo_r26, mo_r27, mo_r28, mo_r29, mo_r30, mo_r31, mo_r33, mo_r34, mo_r35, mo_r36, mo_r40, mo_r41, mo_r42, mo_r43, mo_r44, mo_r47, mo_r55, mo_r56, mo_a104, mo_a105, mo_a106, mo_a107, mo_a108, mo_a109, mo_a110, mo_a111, mo_a112, mo_a113, mo_a114, mo_a115, mo_a116, mo_a117, mo_a118, mo_a119, mo_a120, mo_a121, mo_a122, mo_a123, mo_a124, mo_a125, mo_a126, mo_a127, mo_a128, mo_a129, mo_a130, mo_a131, mo_a132, mo_a133, mo_a134, mo_a135, mo_a136, mo_a137, mo_a138, mo_a139, mo_a140, mo_a141, mo_a142, mo_a143, mo_w104, mo_w105, mo_w106, mo_w107, mo_w108, mo_w109, mo_w110, mo_w111, mo_w112, mo_w113, mo_w114, mo_w115, mo_w116, mo_w117, mo_w118, mo_w119, mo_w120, mo_w121, mo_w122, mo_w123, mo_w124, mo_w125, mo_w126, mo_w127, mo_w128, mo_w129, mo_w130, mo_w131, mo_w132, mo_w133, mo_w134, mo_w135, mo_w136, mo_w137, mo_w138, mo_w139, mo_w140, mo_w141, mo_w142, mo_w143, g53', e121]
  have plain : sl_blk (c.1 s) w = c.1 s → ∃ v, B_Mo_answered_170 103 (nI s) t3 = some v ∧ mo_Ci v (if b / 8 % 2 = 1 then cl_ask (cl_set c s (sl_on (sl_blk (c.1 s) w) b) ((c.2.1 s).take (c.1 s 6 * af_size (c.1 s 5)) ++ P) none) s else cl_set c s (sl_on (sl_blk (c.1 s) w) b) ((c.2.1 s).take (c.1 s 6 * af_size (c.1 s 5)) ++ P) none) ∧ mo_F dCl t v := by
    intro e
    rw [e] at oks ⊢
    exact y_ans170 hS h ft3 hs r3 hp3 g57' hb1 oks so
  cases w with
  | none =>
    rw [if_pos (show oI none < 0 by decide)]
    exact plain (by rw [sl_blk, if_neg (fun z => z.2 rfl)])
  | some y =>
    have hy := mok.2.2.2.2.1 y rfl
    rw [if_neg (show ¬ oI (some y) < 0 from nI_nlt (b := 0) (by omega) (by omega))]
    by_cases c10 : c.1 s 10 = 0
    · rw [if_pos (show nI (c.1 s 10) = 0 by rw [c10]; rfl)]
      exact plain (by rw [sl_blk, if_neg (fun z => z.1 c10)])
    · rw [if_neg (nI_ne0 (by omega) (by omega))]
      have e : sl_blk (c.1 s) (some y) = va_up (va_up (c.1 s) 11 1) 12 y := by
        rw [sl_blk, if_pos ⟨c10, fun z => by cases z⟩]
        rfl
      have sb := so_blk (w := some y) so h7
      rw [e] at oks sb ⊢
      have f4 : mo_F (fun n j => (n = 122 ∨ n = 123) ∧ j = s) t3 (ob_setI (ob_setI t3 122 s (nI 1)) 123 s (nI y)) := (mo_F.o (by omega)).s (by omega)
      have g53a : ob_i (ob_setI t3 122 s 1) 103 53 = oI (some y) := by rw [ob_i_n (by omega)]; exact g53'
      obtain ⟨v, ev, q1, q2⟩ := y_ans170 hS h (ft3.tr (f4.mono (fun n j z => by omega))) hs ((r3.set 11 122 1 (by simp)).set 12 123 y (by simp)) (hp3.f f4 (fun n j a b => by omega)) ((f4.2.2.2.2 _ _ (by omega)).trans g57') hb1 oks sb
      refine ⟨v, ?_, q1, q2⟩
      exact ev
theorem y_answered (hS : mo_sh t) (h : mo_Ci t c) (hm : mo_Mm t ty code id tok w b2 b1 S P) (hs : s < 2) (h2 : c.1 s 2 = 1) : ∃ u, X_Mo_answered 103 (nI s) t = some u ∧ mo_Ci u (cl_ansS c s code w b2 P) ∧ mo_F dCl t u := by
  obtain ⟨a, hr, ha, ok, so⟩ := (h.1 s hs).1.r (by omega)
  have f1o : mo_F (fun n j => n = 107 ∧ j = s) t (ob_setI t 107 s 0) := mo_F.o ⟨rfl, rfl⟩
  have f1 : mo_F (dSP s) t (ob_setI t 107 s 0) := mo_F.o (by omega)
  have s1 := hS.f f1
  have hr1 := hr.f f1o (fun n j a b => by omega)
  have hp1 : mo_Pe (ob_setI t 107 s 0) s none := by
    show ob_i (ob_setI t 107 s 0) 107 s = 0
    rw [ob_i_self]
  have mm1 := hm.f f1o (fun n j a b => by omega)
  have mm := mm1
  obtain ⟨g49, g50, g51, g52, g53, g57, g58, gP, gS, mok, sok⟩ := mm1
  have e118 := hr1.2.2.2.2.1
  have e119 := hr1.2.2.2.2.2.1
  have e120 := hr1.2.2.2.2.2.2.1
  have e127 := hr1.2.2.2.2.2.2.2.2.2.2.2.2.1
  have hF5 : c.1 s 5 < 2 := ok.2.2.2.1
  have hF6 : c.1 s 6 ≤ 5 := ok.2.2.2.2.1
  have hF7 : c.1 s 7 < 2 := ok.2.2.2.2.2.1
  have hB80 : (c.2.1 s).length ≤ 80 := ok.2.2.2.2.2.2.2.2.2.2.2.2.1
  have hz := af_size_ok (c.1 s 5)
  have hfr : c.1 s 6 * af_size (c.1 s 5) ≤ 5 * 32 := Nat.mul_le_mul (by omega) hz.1
  have hPl := gP.2.2.1
  have hco := mok.2.1
  have k212 : ¬ (c.1 s 7 = 0 ∧ code = 69 ∧ sl_due (c.1 s) b2 P) → ∃ v, B_Mo_answered_212 103 (nI s) (ob_setI t 107 s 0) = some v ∧ mo_Ci v (cl_ansS c s code w b2 P) ∧ mo_F dCl t v := fun hn => y_ans212 hS h f1 hs hr1 hp1 (ha h2) ok so g50 mok hn
  have k0 : ¬ (b2 ≠ none ∧ b2.getD 0 / 16 = c.1 s 6 ∧ b2.getD 0 % 8 = c.1 s 5) → ∃ v, B_Mo_answered_70 103 (nI s) (nI (c.1 s 6 * af_size (c.1 s 5))) 0 (ob_setI t 107 s 0) = some v ∧ mo_Ci v (cl_ansS c s code w b2 P) ∧ mo_F dCl t v := by
    intro hn
    obtain ⟨v, ev, q1, q2⟩ := k212 (fun z => hn ⟨z.2.2.1, z.2.2.2.1, z.2.2.2.2.1⟩)
    refine ⟨v, ?_, q1, q2⟩
    simp (disch := first | assumption | (simp only [mo_shs]; assumption) | omega | (simp; done)) only [B_Mo_answered_70, ob_i_self, ob_i_n, ob_i_k, mo_shs, Option.bind_some, ob_b2_s, mo_this, mo_g, mo_p, mo_r0, mo_r1, mo_r2, mo_r7, mo_r8, mo_r9, mo_r10, mo_r11, mo_r12, mo_r13, mo_r14, mo_r15, mo_r16, mo_r17, mo_r18, mo_r19, mo_r20, mo_r21, mo_r22, mo_r23, mo_r24, mo_r25, mo_r26, mo_r27, mo_r28, mo_r29, mo_r30, mo_r31, mo_r33, mo_r34, mo_r35, mo_r36, mo_r40, mo_r41, mo_r42, mo_r43, mo_r44, mo_r47, mo_r55, mo_r56, mo_a104, mo_a105, mo_a106, mo_a107, mo_a108, mo_a109, mo_a110, mo_a111, mo_a112, mo_a113, mo_a114, mo_a115, mo_a116, mo_a117, mo_a118, mo_a119, mo_a120, mo_a121, mo_a122, mo_a123, mo_a124, mo_a125, mo_a126, mo_a127, mo_a128, mo_a129, mo_a130, mo_a131, mo_a132, mo_a133, mo_a134, mo_a135, mo_a136, mo_a137, mo_a138, mo_a139, mo_a140, mo_a141, mo_a142, mo_a143, mo_w104, mo_w105, mo_w106, mo_w107, mo_w108, mo_w109, mo_w110, mo_w111, mo_w112, mo_w113, mo_w114, mo_w115, mo_w116, mo_w117, mo_w118, mo_w119, mo_w120, mo_w121, mo_w122, mo_w123, mo_w124, mo_w125, mo_w126, mo_w127, mo_w128, mo_w129, mo_w130, mo_w131, mo_w132, mo_w133, mo_w134, mo_w135, mo_w136, mo_w137, mo_w138, mo_w139, mo_w140, mo_w141, mo_w142, mo_w143, g50, e120]
    rw [if_pos (trivial : True), ev]
    split
    · rfl
    · split <;> rfl
  simp (disch := first | assumption | (simp only [mo_shs]; assumption) | omega | (simp; done)) only [X_Mo_answered, ob_i_self, ob_i_n, ob_i_k, mo_shs, Option.bind_some, ob_b2_s, mo_this, mo_g, mo_p, mo_r0, mo_r1, mo_r2, mo_r7, mo_r8, mo_r9, mo_r10, mo_r11, mo_r12, mo_r13, mo_r14, mo_r15, mo_r16, mo_r17, mo_r18, mo_r19, mo_r20, mo_r21, mo_r22, mo_r23, mo_r24, mo_r25, mo_r26, mo_r27, mo_r28, mo_r29, mo_r30, mo_r31, mo_r33, mo_r34, mo_r35, mo_r36, mo_r40, mo_r41, mo_r42, mo_r43, mo_r44, mo_r47, mo_r55, mo_r56, mo_a104, mo_a105, mo_a106, mo_a107, mo_a108, mo_a109, mo_a110, mo_a111, mo_a112, mo_a113, mo_a114, mo_a115, mo_a116, mo_a117, mo_a118, mo_a119, mo_a120, mo_a121, mo_a122, mo_a123, mo_a124, mo_a125, mo_a126, mo_a127, mo_a128, mo_a129, mo_a130, mo_a131, mo_a132, mo_a133, mo_a134, mo_a135, mo_a136, mo_a137, mo_a138, mo_a139, mo_a140, mo_a141, mo_a142, mo_a143, mo_w104, mo_w105, mo_w106, mo_w107, mo_w108, mo_w109, mo_w110, mo_w111, mo_w112, mo_w113, mo_w114, mo_w115, mo_w116, mo_w117, mo_w118, mo_w119, mo_w120, mo_w121, mo_w122, mo_w123, mo_w124, mo_w125, mo_w126, mo_w127, mo_w128, mo_w129, mo_w130, mo_w131, mo_w132, mo_w133, mo_w134, mo_w135, mo_w136, mo_w137, mo_w138, mo_w139, mo_w140, mo_w141, mo_w142, mo_w143, e118, e119, y_size, pk_mul, g57]
  cases b2 with
  | none =>
    rw [if_pos (show oI none < 0 by decide), B_Mo_answered_69]
    exact k0 (fun z => z.1 rfl)
  | some b =>
    have hb := mok.2.2.2.2.2.1 b rfl
    have eb16 : oI (some b) / 16 = nI (b / 16) := by
      show nI b / 16 = nI (b / 16)
      rw [show (16 : Int32) = nI 16 from rfl, pk_div (by omega) (by omega) (by omega)]
    have eb8 : oI (some b) - oI (some b) / 8 * 8 = nI (b % 8) := by
      show nI b - nI b / 8 * 8 = nI (b % 8)
      rw [show (8 : Int32) = nI 8 from rfl, pk_rem (by omega) (by omega) (by omega)]
    rw [if_neg (show ¬ oI (some b) < 0 from nI_nlt (b := 0) (by omega) (by omega)), eb16, eb8]
    by_cases c1 : b / 16 = c.1 s 6
    · rw [if_neg (show ¬ ¬ nI (b / 16) = nI (c.1 s 6) from fun z => z (by rw [c1]))]
      by_cases c2 : b % 8 = c.1 s 5
      · rw [if_neg (show ¬ ¬ nI (b % 8) = nI (c.1 s 5) from fun z => z (by rw [c2]))]
        simp (disch := first | assumption | (simp only [mo_shs]; assumption) | omega | (simp; done)) only [B_Mo_answered_70, ob_i_self, ob_i_n, ob_i_k, mo_shs, Option.bind_some, ob_b2_s, mo_this, mo_g, mo_p, mo_r0, mo_r1, mo_r2, mo_r7, mo_r8, mo_r9, mo_r10, mo_r11, mo_r12, mo_r13, mo_r14, mo_r15, mo_r16, mo_r17, mo_r18, mo_r19, mo_r20, mo_r21, mo_r22, mo_r23, mo_r24, mo_r25, mo_r26, mo_r27, mo_r28, mo_r29, mo_r30, mo_r31, mo_r33, mo_r34, mo_r35, mo_r36, mo_r40, mo_r41, mo_r42, mo_r43, mo_r44, mo_r47, mo_r55, mo_r56, mo_a104, mo_a105, mo_a106, mo_a107, mo_a108, mo_a109, mo_a110, mo_a111, mo_a112, mo_a113, mo_a114, mo_a115, mo_a116, mo_a117, mo_a118, mo_a119, mo_a120, mo_a121, mo_a122, mo_a123, mo_a124, mo_a125, mo_a126, mo_a127, mo_a128, mo_a129, mo_a130, mo_a131, mo_a132, mo_a133, mo_a134, mo_a135, mo_a136, mo_a137, mo_a138, mo_a139, mo_a140, mo_a141, mo_a142, mo_a143, mo_w104, mo_w105, mo_w106, mo_w107, mo_w108, mo_w109, mo_w110, mo_w111, mo_w112, mo_w113, mo_w114, mo_w115, mo_w116, mo_w117, mo_w118, mo_w119, mo_w120, mo_w121, mo_w122, mo_w123, mo_w124, mo_w125, mo_w126, mo_w127, mo_w128, mo_w129, mo_w130, mo_w131, mo_w132, mo_w133, mo_w134, mo_w135, mo_w136, mo_w137, mo_w138, mo_w139, mo_w140, mo_w141, mo_w142, mo_w143, g50, e120, gP.1, nI_add, e127]
        by_cases c3 : code = 69
        · rw [if_neg (show ¬ ¬ nI code = (69 : Int32) from fun z => z (by rw [c3]; rfl))]
          by_cases c4 : c.1 s 7 = 0
          · rw [if_neg (show ¬ ¬ nI (c.1 s 7) = 0 from fun z => z (by rw [c4]; rfl)), if_neg (show ¬ (1 : Int32) = 0 by decide)]
            by_cases c5 : c.1 s 6 * af_size (c.1 s 5) + P.length ≤ 64
            · rw [if_neg (show ¬ (64 : Int32) < nI (c.1 s 6 * af_size (c.1 s 5) + P.length) from nI_nlt (a := 64) (by omega) (by omega))]
              have key := fun x => y_ans131 (x := x) hS h f1 hs hr1 hp1 ok so mm c4 c3 ⟨fun z => (by cases z), c1, c2, c5⟩
              by_cases c6 : (c.2.1 s).length ≤ c.1 s 6 * af_size (c.1 s 5)
              · rw [if_pos (nI_le c6 (by omega))]
                exact key _ (by rw [List.length_take]; omega)
              · rw [if_neg (nI_ge (by omega) (by omega))]
                exact key _ (by rw [List.length_take]; omega)
            · rw [if_pos (show (64 : Int32) < nI (c.1 s 6 * af_size (c.1 s 5) + P.length) from nI_lt (a := 64) (by omega) (by omega))]
              exact k212 (fun z => c5 z.2.2.2.2.2)
          · rw [if_pos (nI_ne0 (by omega) (by omega))]
            exact k212 (fun z => c4 z.1)
        · rw [if_pos (show ¬ nI code = (69 : Int32) from fun z => c3 ((nI_eq (b := 69) (by omega) (by omega)).mp z))]
          exact k212 (fun z => c3 z.2.1)
      · rw [if_pos (show ¬ nI (b % 8) = nI (c.1 s 5) from fun z => c2 ((nI_eq (by omega) (by omega)).mp z)), B_Mo_answered_69]
        exact k0 (fun z => c2 z.2.2)
    · rw [if_pos (show ¬ nI (b / 16) = nI (c.1 s 6) from fun z => c1 ((nI_eq (by omega) (by omega)).mp z)), B_Mo_answered_69]
      exact k0 (fun z => c1 z.2.1)
theorem y_ahead {x l : Nat} (hx : x < 65536) (hl : l < 65536) : (nI x - nI l + 65536) - (nI x - nI l + 65536) / 65536 * 65536 = nI (nw_ah x l) := by
  have e : nI x - nI l + 65536 = nI (x + 65536 - l) := by
    rw [show (65536 : Int32) = nI 65536 from rfl, Int32.sub_eq_add_neg, Int32.add_assoc, Int32.add_comm (- nI l), ← Int32.add_assoc, ← Int32.sub_eq_add_neg, nI_add, nb_sub (by omega)]
  rw [e, show (65536 : Int32) = nI 65536 from rfl, pk_rem (by omega) (by omega) (by omega)]
  rfl
/-- news that are taken -/
theorem y_told52 {x b : Nat} (hS : mo_sh t) (h : mo_Ci t c) (hm : mo_Mm t ty code id tok (some x) (some b) b1 S P) (hs : s < 2) (h2 : c.1 s 2 ≠ 0) (h11 : c.1 s 11 ≠ 0) (hb1 : b / 16 = 0) (hb2 : b % 8 = c.1 s 5) : ∃ u, B_Mo_told_52 103 (nI s) 1 t = some u ∧ mo_Ci u (if b / 8 % 2 = 1 then cl_ask (cl_set c s (sl_nw (c.1 s) (some x) (some b)) P none) s else cl_set c s (sl_nw (c.1 s) (some x) (some b)) P none) ∧ mo_F dCl t u := by
  obtain ⟨a, hr, ha, ok, so⟩ := (h.1 s hs).1.r h2
  have mm := hm
  obtain ⟨g49, g50, g51, g52, g53, g57, g58, gP, gS, mok, sok⟩ := hm
  have oks := sl_nw_ok ok mok (fun z => by cases z)
  have hbl := mok.2.2.2.2.2.1 b rfl
  have e118 := hr.2.2.2.2.1
  have eb16 : oI (some b) / 16 = nI (b / 16) := by
    show nI b / 16 = nI (b / 16)
    rw [show (16 : Int32) = nI 16 from rfl, pk_div (by omega) (by omega) (by omega)]
  have eb8 : oI (some b) - oI (some b) / 8 * 8 = nI (b % 8) := by
    show nI b - nI b / 8 * 8 = nI (b % 8)
    rw [show (8 : Int32) = nI 8 from rfl, pk_rem (by omega) (by omega) (by omega)]
  have f1 : mo_F (fun n j => (n = 123 ∨ n = 107 ∨ n = 127) ∧ j = s) t (ob_setI (ob_setI (ob_setI t 123 s (nI x)) 107 s 0) 127 s (nI 0)) := ((mo_F.o (by omega)).s (by omega)).s (by omega)
  have r2 : mo_Sr (ob_setI (ob_setI (ob_setI t 123 s (nI x)) 107 s 0) 127 s (nI 0)) s (va_up (c.1 s) 12 x) ((c.2.1 s).take 0) a := ((hr.set 12 123 x (by simp)).f (mo_F.o (D := fun n j => n = 107 ∧ j = s) ⟨rfl, rfl⟩) (fun n j a b => by omega)).cut 0 0 (by simp)
  have gP2 := gP.f f1 (fun n j a b => by omega)
  have hPl := gP.2.2.1
  obtain ⟨t3, e3, r3, f3⟩ := y_append (hS.f f1) r2 gP2 hs (by simp; omega)
  have r3 : mo_Sr t3 s (va_up (c.1 s) 12 x) P a := by simpa using r3
  have f13 : mo_F (fun n j => ((n = 123 ∨ n = 107 ∨ n = 127) ∧ j = s) ∨ (n = 126 ∧ 80 * s ≤ j ∧ j < 80 * s + 80)) t t3 := (f1.mono (fun n j z => Or.inl z)).tr (f3.mono (fun n j z => by omega))
  have s3 := hS.f f13
  have p3 : mo_Pe t3 s none := by
    show ob_i t3 107 s = 0
    rw [f3.2.2.2.2 _ _ (by omega), ob_i_n (by omega), ob_i_self]
  have f4 : mo_F (fun n j => n = 119 ∧ j = s) t3 (ob_setI t3 119 s (nI 0)) := mo_F.o ⟨rfl, rfl⟩
  have g57' : ob_i (ob_setI t3 119 s 0) 103 57 = nI b := by
    rw [ob_i_n (by omega), f13.2.2.2.2 _ _ (by omega)]
    exact g57
  have r4 := r3.set 6 119 0 (by simp)
  have so4 : so_a s (va_up (va_up (c.1 s) 12 x) 6 0) := by
    refine so_up ?_ _ _ (by omega)
    exact ⟨by simpa [va_up] using so.1, by simpa [va_up] using so.2.1, by simpa [va_up] using so.2.2.1, fun z => absurd (by simpa [va_up] using z) h11⟩
  have ft4 : mo_F (dSP s) t (ob_setI t3 119 s (nI 0)) := (f13.mono (fun n j z => by omega)).tr (f4.mono (fun n j z => by omega))
  have p4 := p3.f f4 (fun n j a b => by omega)
  have eb : nI b / 8 = nI (b / 8) := by
    rw [show (8 : Int32) = nI 8 from rfl, pk_div (by omega) (by omega) (by omega)]
  have g53a := g53
  simp (disch := first | assumption | (simp only [mo_shs]; assumption) | omega | (simp; done)) only [B_Mo_told_52, ob_i_self, ob_i_n, ob_i_k, mo_shs, Option.bind_some, ob_b2_s, mo_this, mo_g, mo_p, mo_r0, mo_r1, mo_r2, mo_r7, mo_r8, mo_r9, mo_r10, mo_r11, mo_r12, mo_r13, mo_r14, mo_r15, mo_r16, mo_r17, mo_r18, mo_r19, mo_r20, mo_r21, mo_r22, mo_r23, mo_r24, mo_r25, mo_r26, mo_r27, mo_r28, mo_r29, mo_r30, mo_r31, mo_r33, mo_r34, mo_r35, mo_r36, mo_r40, mo_r41, mo_r42, mo_r43, mo_r44, mo_r47, mo_r55, mo_r56, mo_a104, mo_a105, mo_a106, mo_a107, mo_a108, mo_a109, mo_a110, mo_a111, mo_a112, mo_a113, mo_a114, mo_a115, mo_a116, mo_a117, mo_a118, mo_a119, mo_a120, mo_a121, mo_a122, mo_a123, mo_a124, mo_a125, mo_a126, mo_a127, mo_a128, mo_a129, mo_a130, mo_a131, mo_a132, mo_a133, mo_a134, mo_a135, mo_a136, mo_a137, mo_a138, mo_a139, mo_a140, mo_a141, mo_a142, mo_a143, mo_w104, mo_w105, mo_w106, mo_w107, mo_w108, mo_w109, mo_w110, mo_w111, mo_w112, mo_w113, mo_w114, mo_w115, mo_w116, mo_w117, mo_w118, mo_w119, mo_w120, mo_w121, mo_w122, mo_w123, mo_w124, mo_w125, mo_w126, mo_w127, mo_w128, mo_w129, mo_w130, mo_w131, mo_w132, mo_w133, mo_w134, mo_w135, mo_w136, mo_w137, mo_w138, mo_w139, mo_w140, mo_w141, mo_w142, mo_w143, g57, g53, e118]
  rw [if_neg (show ¬ (1 : Int32) = 0 by decide), if_neg (show ¬ oI (some b) < 0 from nI_nlt (b := 0) (by omega) (by omega)), eb16, if_neg (show ¬ ¬ nI (b / 16) = 0 from fun z => z (by rw [hb1]; rfl)), eb8, if_pos (show nI (b % 8) = nI (c.1 s 5) by rw [hb2])]
  rw [show X_Mo_append 103 (nI s) (ob_setI (ob_setI (ob_setI t 123 s (oI (some x))) 107 s 0) 127 s 0) = some t3 from e3]
  simp (disch := first | assumption | (simp only [mo_shs]; assumption) | omega | (simp; done)) only [ob_i_self, ob_i_n, ob_i_k, mo_shs, Option.bind_some, ob_b2_s, mo_this, mo_g, mo_p, mo_r0, mo_r1, mo_r2, mo_r7, mo_r8, mo_r9, mo_r10, mo_r11, mo_r12, mo_r13, mo_r14, mo_r15, mo_r16, mo_r17, mo_r18, mo_r19, mo_r20, mo_r21, mo_r22, mo_r23, mo_r24, mo_r25, mo_r26, mo_r27, mo_r28, mo_r29, mo_r30, mo_r31, mo_r33, mo_r34, mo_r35, mo_r36, mo_r40, mo_r41, mo_r42, mo_r43, mo_r44, mo_r47, mo_r55, mo_r56, mo_a104, mo_a105, mo_a106, mo_a107, mo_a108, mo_a109, mo_a110, mo_a111, mo_a112, mo_a113, mo_a114, mo_a115, mo_a116, mo_a117, mo_a118, mo_a119, mo_a120, mo_a121, mo_a122, mo_a123, mo_a124, mo_a125, mo_a126, mo_a127, mo_a128, mo_a129, mo_a130, mo_a131, mo_a132, mo_a133, mo_a134, mo_a135, mo_a136, mo_a137, mo_a138, mo_a139, mo_a140, mo_a141, mo_a142, mo_a143, mo_w104, mo_w105, mo_w106, mo_w107, mo_w108, mo_w109, mo_w110, mo_w111, mo_w112, mo_w113, mo_w114, mo_w115, mo_w116, mo_w117, mo_w118, mo_w119, mo_w120, mo_w121, mo_w122, mo_w123, mo_w124, mo_w125, mo_w126, mo_w127, mo_w128, mo_w129, mo_w130, mo_w131, mo_w132, mo_w133, mo_w134, mo_w135, mo_w136, mo_w137, mo_w138, mo_w139, mo_w140, mo_w141, mo_w142, mo_w143, g57', eb]
  by_cases d : b / 8 % 2 = 1
  · have es : sl_nw (c.1 s) (some x) (some b) = va_up (va_up (va_up (c.1 s) 12 x) 6 0) 6 1 := by
      show sl_on (va_up (va_up (c.1 s) 12 x) 6 0) b = _
      rw [sl_on, if_neg (by omega), va_up_self]
    rw [es] at oks ⊢
    have f5 : mo_F (dSP s) t (ob_setI (ob_setI t3 119 s (nI 0)) 119 s (nI 1)) := ft4.s (by omega)
    obtain ⟨v, ev, q1, q2⟩ := y_askC (b := 0) (o := none) hS h f5 hs (r4.set 6 119 1 (by simp)) oks (so_up so4 _ _ (by omega)) (Or.inr ⟨rfl, by rw [va_up_self]; omega⟩)
    refine ⟨v, ?_, by rw [if_pos d]; exact q1, q2⟩
    rw [if_neg (show ¬ ¬ nI (b / 8) = (1 : Int32) from fun z => z (by rw [show b / 8 = 1 by omega]; rfl)), show X_Mo_ask 103 (nI s) 0 (ob_setI (ob_setI t3 119 s 0) 119 s 1) = some v from ev]
    rfl
  · have es : sl_nw (c.1 s) (some x) (some b) = va_up (va_up (va_up (c.1 s) 12 x) 6 0) 2 2 := by
      show sl_on (va_up (va_up (c.1 s) 12 x) 6 0) b = _
      rw [sl_on, if_pos (by omega)]
    rw [es] at oks ⊢
    have f5 : mo_F (dSP s) t (ob_setI (ob_setI t3 119 s (nI 0)) 114 s (nI 2)) := ft4.s (by omega)
    refine ⟨ob_setI (ob_setI t3 119 s (nI 0)) 114 s (nI 2), ?_, ?_, f5.mono (fun n j z => by omega)⟩
    · rw [if_pos (show ¬ nI (b / 8) = (1 : Int32) from fun z => d (by have := (nI_eq (b := 1) (by omega) (by omega)).mp z; omega))]
      rfl
    · rw [if_neg d]
      exact h.st f5 hs (mo_Sl.mk (r4.set 2 114 2 (by simp)) (by rw [va_up_self]; omega) (by rw [va_up_self]; omega) oks (so_up so4 _ _ (by omega))) (p4.f (mo_F.o (D := fun n j => n = 114 ∧ j = s) ⟨rfl, rfl⟩) (fun n j a b => by omega))
theorem mo_Ci.bare {u : ob_S} (ty2 : Nat) (hS : mo_sh t) (h : mo_Ci t c) (hty : ty2 < 4) (hid : id < 65536) : ∃ u, X_Mo_bare 103 (nI ty2) (nI id) 1 t = some u ∧ mo_Ci u (cl_send c (aw_empty ty2 id) 1) ∧ mo_F dWL t u := by
  obtain ⟨u1, e1, li1, f1⟩ := y_bare ty2 id 1 hS h.2.2 hty hid (by omega)
  exact ⟨u1, e1, ⟨fun k hk => ⟨(h.1 k hk).1.f f1 (fun n j a b => by omega), (h.1 k hk).2.f f1 (fun n j a b => by omega)⟩, ⟨(f1.2.2.2.2 _ _ (by omega)).trans h.2.1.1, h.2.1.2⟩, li1⟩, f1⟩
theorem y_told (hS : mo_sh t) (h : mo_Ci t c) (hm : mo_Mm t ty code id tok w b2 b1 S P) (hs : s < 2) (h2 : c.1 s 2 ≠ 0) (h11 : c.1 s 11 ≠ 0) : ∃ u, X_Mo_told 103 (nI s) t = some u ∧ mo_Ci u (cl_newsS (cl_send c (aw_empty 2 id) 1) s w b2 P) ∧ mo_F dCl t u := by
  have hid := hm.2.2.2.2.2.2.2.2.2.1.2.2.1
  obtain ⟨u, eu, ci, fu⟩ := mo_Ci.bare (u := t) (id := id) 2 hS h (by omega) hid
  have s1 := hS.f fu
  have mm := hm.f fu (fun n j a b => by omega)
  have m0 := mm
  obtain ⟨g49, g50, g51, g52, g53, g57, g58, gP, gS, mok, sok⟩ := mm
  have e51 := hm.2.2.1
  obtain ⟨a, hr, ha, ok, so⟩ := (ci.1 s hs).1.r h2
  have e118 : ob_i u 118 s = nI (c.1 s 5) := hr.2.2.2.2.1
  have e123 : ob_i u 123 s = nI (c.1 s 12) := hr.2.2.2.2.2.2.2.2.2.1
  have o12 : c.1 s 12 < 65536 := ok.2.2.2.2.2.2.2.2.2.2.1
  have o5 : c.1 s 5 < 2 := ok.2.2.2.1
  have fd : mo_F dCl t u := fu.mono (fun n j z => by omega)
  have no : ¬ sl_news (c.1 s) w b2 → mo_Ci u (cl_newsS (cl_send c (aw_empty 2 id) 1) s w b2 P) := fun z => by
    rw [cl_newsS, if_neg (show ¬ sl_news ((cl_send c (aw_empty 2 id) 1).1 s) w b2 from z)]
    exact ci
  have z51 : B_Mo_told_51 103 (nI s) u = some u := by
    rw [B_Mo_told_51, B_Mo_told_52, if_pos rfl]
  simp (disch := first | assumption | (simp only [mo_shs]; assumption) | omega | (simp; done)) only [X_Mo_told, ob_i_self, ob_i_n, ob_i_k, mo_shs, Option.bind_some, ob_b2_s, mo_this, mo_g, mo_p, mo_r0, mo_r1, mo_r2, mo_r7, mo_r8, mo_r9, mo_r10, mo_r11, mo_r12, mo_r13, mo_r14, mo_r15, mo_r16, mo_r17, mo_r18, mo_r19, mo_r20, mo_r21, mo_r22, mo_r23, mo_r24, mo_r25, mo_r26, mo_r27, mo_r28, mo_r29, mo_r30, mo_r31, mo_r33, mo_r34, mo_r35, mo_r36, mo_r40, mo_r41, mo_r42, mo_r43, mo_r44, mo_r47, mo_r55, mo_r56, mo_a104, mo_a105, mo_a106, mo_a107, mo_a108, mo_a109, mo_a110, mo_a111, mo_a112, mo_a113, mo_a114, mo_a115, mo_a116, mo_a117, mo_a118, mo_a119, mo_a120, mo_a121, mo_a122, mo_a123, mo_a124, mo_a125, mo_a126, mo_a127, mo_a128, mo_a129, mo_a130, mo_a131, mo_a132, mo_a133, mo_a134, mo_a135, mo_a136, mo_a137, mo_a138, mo_a139, mo_a140, mo_a141, mo_a142, mo_a143, mo_w104, mo_w105, mo_w106, mo_w107, mo_w108, mo_w109, mo_w110, mo_w111, mo_w112, mo_w113, mo_w114, mo_w115, mo_w116, mo_w117, mo_w118, mo_w119, mo_w120, mo_w121, mo_w122, mo_w123, mo_w124, mo_w125, mo_w126, mo_w127, mo_w128, mo_w129, mo_w130, mo_w131, mo_w132, mo_w133, mo_w134, mo_w135, mo_w136, mo_w137, mo_w138, mo_w139, mo_w140, mo_w141, mo_w142, mo_w143, e51]
  rw [show X_Mo_bare 103 2 (nI id) 1 t = some u from eu]
  simp (disch := first | assumption | (simp only [mo_shs]; assumption) | omega | (simp; done)) only [ob_i_self, ob_i_n, ob_i_k, mo_shs, Option.bind_some, ob_b2_s, mo_this, mo_g, mo_p, mo_r0, mo_r1, mo_r2, mo_r7, mo_r8, mo_r9, mo_r10, mo_r11, mo_r12, mo_r13, mo_r14, mo_r15, mo_r16, mo_r17, mo_r18, mo_r19, mo_r20, mo_r21, mo_r22, mo_r23, mo_r24, mo_r25, mo_r26, mo_r27, mo_r28, mo_r29, mo_r30, mo_r31, mo_r33, mo_r34, mo_r35, mo_r36, mo_r40, mo_r41, mo_r42, mo_r43, mo_r44, mo_r47, mo_r55, mo_r56, mo_a104, mo_a105, mo_a106, mo_a107, mo_a108, mo_a109, mo_a110, mo_a111, mo_a112, mo_a113, mo_a114, mo_a115, mo_a116, mo_a117, mo_a118, mo_a119, mo_a120, mo_a121, mo_a122, mo_a123, mo_a124, mo_a125, mo_a126, mo_a127, mo_a128, mo_a129, mo_a130, mo_a131, mo_a132, mo_a133, mo_a134, mo_a135, mo_a136, mo_a137, mo_a138, mo_a139, mo_a140, mo_a141, mo_a142, mo_a143, mo_w104, mo_w105, mo_w106, mo_w107, mo_w108, mo_w109, mo_w110, mo_w111, mo_w112, mo_w113, mo_w114, mo_w115, mo_w116, mo_w117, mo_w118, mo_w119, mo_w120, mo_w121, mo_w122, mo_w123, mo_w124, mo_w125, mo_w126, mo_w127, mo_w128, mo_w129, mo_w130, mo_w131, mo_w132, mo_w133, mo_w134, mo_w135, mo_w136, mo_w137, mo_w138, mo_w139, mo_w140, mo_w141, mo_w142, mo_w143, g53, e123, z51]
  cases w with
  | none =>
    rw [if_pos (show oI none < 0 by decide)]
    exact ⟨u, rfl, no (fun z => z.1 rfl), fd⟩
  | some x =>
    have hx := mok.2.2.2.2.1 x rfl
    have ea : (oI (some x) - nI (c.1 s 12) + 65536) - (oI (some x) - nI (c.1 s 12) + 65536) / 65536 * 65536 = nI (nw_ah x (c.1 s 12)) := y_ahead hx o12
    have hal : nw_ah x (c.1 s 12) < 65536 := Nat.mod_lt _ (by omega)
    rw [if_neg (show ¬ oI (some x) < 0 from nI_nlt (b := 0) (by omega) (by omega))]
    rw [ea]
    by_cases c1 : nw_ah x (c.1 s 12) < 1
    · rw [if_pos (show nI (nw_ah x (c.1 s 12)) < (1 : Int32) from nI_lt (b := 1) c1 (by omega))]
      exact ⟨u, rfl, no (fun z => by have := z.2.1; simp only [Option.getD_some] at this; omega), fd⟩
    · rw [if_neg (show ¬ nI (nw_ah x (c.1 s 12)) < (1 : Int32) from nI_nlt (b := 1) (by omega) (by omega))]
      by_cases c2 : 32767 < nw_ah x (c.1 s 12)
      · rw [if_pos (show (32767 : Int32) < nI (nw_ah x (c.1 s 12)) from nI_lt (a := 32767) c2 (by omega))]
        exact ⟨u, rfl, no (fun z => by have := z.2.2.1; simp only [Option.getD_some] at this; omega), fd⟩
      · rw [if_neg (show ¬ (32767 : Int32) < nI (nw_ah x (c.1 s 12)) from nI_nlt (a := 32767) (by omega) (by omega))]
        cases b2 with
        | none =>
          refine ⟨u, ?_, no (fun z => z.2.2.2.1 rfl), fd⟩
          simp (disch := first | assumption | (simp only [mo_shs]; assumption) | omega | (simp; done)) only [B_Mo_told_52, ob_i_self, ob_i_n, ob_i_k, mo_shs, Option.bind_some, ob_b2_s, mo_this, mo_g, mo_p, mo_r0, mo_r1, mo_r2, mo_r7, mo_r8, mo_r9, mo_r10, mo_r11, mo_r12, mo_r13, mo_r14, mo_r15, mo_r16, mo_r17, mo_r18, mo_r19, mo_r20, mo_r21, mo_r22, mo_r23, mo_r24, mo_r25, mo_r26, mo_r27, mo_r28, mo_r29, mo_r30, mo_r31, mo_r33, mo_r34, mo_r35, mo_r36, mo_r40, mo_r41, mo_r42, mo_r43, mo_r44, mo_r47, mo_r55, mo_r56, mo_a104, mo_a105, mo_a106, mo_a107, mo_a108, mo_a109, mo_a110, mo_a111, mo_a112, mo_a113, mo_a114, mo_a115, mo_a116, mo_a117, mo_a118, mo_a119, mo_a120, mo_a121, mo_a122, mo_a123, mo_a124, mo_a125, mo_a126, mo_a127, mo_a128, mo_a129, mo_a130, mo_a131, mo_a132, mo_a133, mo_a134, mo_a135, mo_a136, mo_a137, mo_a138, mo_a139, mo_a140, mo_a141, mo_a142, mo_a143, mo_w104, mo_w105, mo_w106, mo_w107, mo_w108, mo_w109, mo_w110, mo_w111, mo_w112, mo_w113, mo_w114, mo_w115, mo_w116, mo_w117, mo_w118, mo_w119, mo_w120, mo_w121, mo_w122, mo_w123, mo_w124, mo_w125, mo_w126, mo_w127, mo_w128, mo_w129, mo_w130, mo_w131, mo_w132, mo_w133, mo_w134, mo_w135, mo_w136, mo_w137, mo_w138, mo_w139, mo_w140, mo_w141, mo_w142, mo_w143, g57]
          rw [if_neg (show ¬ (1 : Int32) = 0 by decide), if_pos (show oI none < 0 by decide)]
        | some b =>
          have hb := mok.2.2.2.2.2.1 b rfl
          have eb16 : oI (some b) / 16 = nI (b / 16) := by
            show nI b / 16 = nI (b / 16)
            rw [show (16 : Int32) = nI 16 from rfl, pk_div (by omega) (by omega) (by omega)]
          have eb8 : oI (some b) - oI (some b) / 8 * 8 = nI (b % 8) := by
            show nI b - nI b / 8 * 8 = nI (b % 8)
            rw [show (8 : Int32) = nI 8 from rfl, pk_rem (by omega) (by omega) (by omega)]
          by_cases c3 : b / 16 = 0
          · by_cases c4 : b % 8 = c.1 s 5
            · obtain ⟨v, ev, q1, q2⟩ := y_told52 s1 ci m0 hs h2 h11 c3 c4
              refine ⟨v, ev, ?_, fd.tr q2⟩
              rw [cl_newsS, if_pos (show sl_news ((cl_send c (aw_empty 2 id) 1).1 s) (some x) (some b) from ⟨fun z => (by cases z), by show 1 ≤ nw_ah x (c.1 s 12); omega, by show nw_ah x (c.1 s 12) ≤ 32767; omega, fun z => (by cases z), c3, c4⟩)]
              exact q1
            · refine ⟨u, ?_, no (fun z => c4 z.2.2.2.2.2), fd⟩
              simp (disch := first | assumption | (simp only [mo_shs]; assumption) | omega | (simp; done)) only [B_Mo_told_52, ob_i_self, ob_i_n, ob_i_k, mo_shs, Option.bind_some, ob_b2_s, mo_this, mo_g, mo_p, mo_r0, mo_r1, mo_r2, mo_r7, mo_r8, mo_r9, mo_r10, mo_r11, mo_r12, mo_r13, mo_r14, mo_r15, mo_r16, mo_r17, mo_r18, mo_r19, mo_r20, mo_r21, mo_r22, mo_r23, mo_r24, mo_r25, mo_r26, mo_r27, mo_r28, mo_r29, mo_r30, mo_r31, mo_r33, mo_r34, mo_r35, mo_r36, mo_r40, mo_r41, mo_r42, mo_r43, mo_r44, mo_r47, mo_r55, mo_r56, mo_a104, mo_a105, mo_a106, mo_a107, mo_a108, mo_a109, mo_a110, mo_a111, mo_a112, mo_a113, mo_a114, mo_a115, mo_a116, mo_a117, mo_a118, mo_a119, mo_a120, mo_a121, mo_a122, mo_a123, mo_a124, mo_a125, mo_a126, mo_a127, mo_a128, mo_a129, mo_a130, mo_a131, mo_a132, mo_a133, mo_a134, mo_a135, mo_a136, mo_a137, mo_a138, mo_a139, mo_a140, mo_a141, mo_a142, mo_a143, mo_w104, mo_w105, mo_w106, mo_w107, mo_w108, mo_w109, mo_w110, mo_w111, mo_w112, mo_w113, mo_w114, mo_w115, mo_w116, mo_w117, mo_w118, mo_w119, mo_w120, mo_w121, mo_w122, mo_w123, mo_w124, mo_w125, mo_w126, mo_w127, mo_w128, mo_w129, mo_w130, mo_w131, mo_w132, mo_w133, mo_w134, mo_w135, mo_w136, mo_w137, mo_w138, mo_w139, mo_w140, mo_w141, mo_w142, mo_w143, g57, g53, e118]
              rw [if_neg (show ¬ (1 : Int32) = 0 by decide), if_neg (show ¬ oI (some b) < 0 from nI_nlt (b := 0) (by omega) (by omega)), eb16, if_neg (show ¬ ¬ nI (b / 16) = 0 from fun z => z (by rw [c3]; rfl)), eb8, if_neg (show ¬ nI (b % 8) = nI (c.1 s 5) from fun z => c4 ((nI_eq (by omega) (by omega)).mp z))]
          · refine ⟨u, ?_, no (fun z => c3 z.2.2.2.2.1), fd⟩
            simp (disch := first | assumption | (simp only [mo_shs]; assumption) | omega | (simp; done)) only [B_Mo_told_52, ob_i_self, ob_i_n, ob_i_k, mo_shs, Option.bind_some, ob_b2_s, mo_this, mo_g, mo_p, mo_r0, mo_r1, mo_r2, mo_r7, mo_r8, mo_r9, mo_r10, mo_r11, mo_r12, mo_r13, mo_r14, mo_r15, mo_r16, mo_r17, mo_r18, mo_r19, mo_r20, mo_r21, mo_r22, mo_r23, mo_r24, mo_r25, mo_r26, mo_r27, mo_r28, mo_r29, mo_r30, mo_r31, mo_r33, mo_r34, mo_r35, mo_r36, mo_r40, mo_r41, mo_r42, mo_r43, mo_r44, mo_r47, mo_r55, mo_r56, mo_a104, mo_a105, mo_a106, mo_a107, mo_a108, mo_a109, mo_a110, mo_a111, mo_a112, mo_a113, mo_a114, mo_a115, mo_a116, mo_a117, mo_a118, mo_a119, mo_a120, mo_a121, mo_a122, mo_a123, mo_a124, mo_a125, mo_a126, mo_a127, mo_a128, mo_a129, mo_a130, mo_a131, mo_a132, mo_a133, mo_a134, mo_a135, mo_a136, mo_a137, mo_a138, mo_a139, mo_a140, mo_a141, mo_a142, mo_a143, mo_w104, mo_w105, mo_w106, mo_w107, mo_w108, mo_w109, mo_w110, mo_w111, mo_w112, mo_w113, mo_w114, mo_w115, mo_w116, mo_w117, mo_w118, mo_w119, mo_w120, mo_w121, mo_w122, mo_w123, mo_w124, mo_w125, mo_w126, mo_w127, mo_w128, mo_w129, mo_w130, mo_w131, mo_w132, mo_w133, mo_w134, mo_w135, mo_w136, mo_w137, mo_w138, mo_w139, mo_w140, mo_w141, mo_w142, mo_w143, g57, g53, e118]
            rw [if_neg (show ¬ (1 : Int32) = 0 by decide), if_neg (show ¬ oI (some b) < 0 from nI_nlt (b := 0) (by omega) (by omega)), eb16, if_pos (nI_ne0 (by omega) (by omega))]
end YCL

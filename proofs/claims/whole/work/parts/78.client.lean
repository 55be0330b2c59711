/-! LAYER 2, 38: a message comes to the reference's client -/
theorem up11_ne {F : Nat → Nat} {k : Nat} (hk : k ≠ 11) : up11 F k = F k := by
  unfold up11
  split
  · rw [va_up_ne _ _ hk]
  · rfl
theorem up11_11 (F : Nat → Nat) : up11 F 11 = if F 2 = 0 then 0 else F 11 := by
  unfold up11
  split
  · rw [va_up_self]
  · rfl
theorem mo_Sl.g {t : ob_S} {s : Nat} {F : Nat → Nat} {B : List Nat} (h : mo_Sl t s F B) : ob_i t 114 s = nI (F 2) ∧ ob_i t 116 s = nI (F 3) ∧ ob_i t 122 s = nI (if F 2 = 0 then 0 else F 11) ∧ sl_ok F B ∧ so_ok s F := by
  obtain ⟨a, q1, q2, q3, q4⟩ := h
  have e2 := q1.1
  have e3 := q1.2.2.1
  have e11 := q1.2.2.2.2.2.2.2.2.1
  rw [up11_ne (by omega)] at e2 e3
  rw [up11_11] at e11
  exact ⟨e2, e3, e11, q3, q4⟩
section YTC
variable {t : ob_S} {c : cl_S} {s ty code id : Nat} {tok w b2 b1 : Option Nat} {S : List (List Nat)} {P : List Nat}
theorem y_cl17 {fu : Nat} (hS : mo_sh t) (h : mo_Ci t c) (hm : mo_Mm t ty code id tok w b2 b1 S P) (hs : s < 2) : B_Mo_toClient_17 (fu + 1) 103 (nI s) t = if sl_asked (c.1 s) (c.2.2.1 s) id tok then (X_Mo_answered 103 (nI s) t).bind fun u => some u else B_Mo_toClient_17 fu 103 (nI (s + 1)) t := by
  obtain ⟨e114, e116, e122, ok, so⟩ := (h.1 s hs).1.g
  have hp := (h.1 s hs).2
  have e107 := hp.act
  obtain ⟨g49, g50, g51, g52, g53, g57, g58, gP, gS, mok, sok⟩ := hm
  have htk : ∀ x, tok = some x → x < 2 ^ 31 := fun x hx => by have := mok.2.2.2.1 x hx; omega
  have hid := mok.2.2.1
  have o2 := ok.1
  have o3 := ok.2.1
  simp (disch := first | assumption | (simp only [mo_shs]; assumption) | omega | (simp; done) | contradiction) only [B_Mo_toClient_17, B_Mo_toClient_73, ob_i_self, ob_i_n, ob_i_k, mo_shs, Option.bind_some, ob_b2_s, mo_this, mo_g, mo_p, mo_r0, mo_r1, mo_r2, mo_r7, mo_r8, mo_r9, mo_r10, mo_r11, mo_r12, mo_r13, mo_r14, mo_r15, mo_r16, mo_r17, mo_r18, mo_r19, mo_r20, mo_r21, mo_r22, mo_r23, mo_r24, mo_r25, mo_r26, mo_r27, mo_r28, mo_r29, mo_r30, mo_r31, mo_r33, mo_r34, mo_r35, mo_r36, mo_r40, mo_r41, mo_r42, mo_r43, mo_r44, mo_r47, mo_r55, mo_r56, mo_a104, mo_a105, mo_a106, mo_a107, mo_a108, mo_a109, mo_a110, mo_a111, mo_a112, mo_a113, mo_a114, mo_a115, mo_a116, mo_a117, mo_a118, mo_a119, mo_a120, mo_a121, mo_a122, mo_a123, mo_a124, mo_a125, mo_a126, mo_a127, mo_a128, mo_a129, mo_a130, mo_a131, mo_a132, mo_a133, mo_a134, mo_a135, mo_a136, mo_a137, mo_a138, mo_a139, mo_a140, mo_a141, mo_a142, mo_a143, mo_w104, mo_w105, mo_w106, mo_w107, mo_w108, mo_w109, mo_w110, mo_w111, mo_w112, mo_w113, mo_w114, mo_w115, mo_w116, mo_w117, mo_w118, mo_w119, mo_w120, mo_w121, mo_w122, mo_w123, mo_w124, mo_w125, mo_w126, mo_w127, mo_w128, mo_w129, mo_w130, mo_w131, mo_w132, mo_w133, mo_w134, mo_w135, mo_w136, mo_w137, mo_w138, mo_w139, mo_w140, mo_w141, mo_w142, mo_w143, e114, e107, e116, g51, g52, nI_1]
  rw [if_neg (show ¬ (2 : Int32) ≤ nI s from nI_ge (b := 2) hs (by omega))]
  by_cases c2 : c.1 s 2 = 1
  · rw [if_neg (show ¬ ¬ nI (c.1 s 2) = (1 : Int32) from fun z => z (by rw [c2]; rfl))]
    cases ho : c.2.2.1 s with
    | none =>
      rw [if_pos (show nI (if (none : Option ap_P) = none then 0 else 1) = 0 from rfl), if_neg (show ¬ sl_asked (c.1 s) none id tok from fun z => by cases z.2.1)]
    | some q =>
      rw [ho] at hp
      obtain ⟨p1, p2, p3⟩ := hp
      have hq : q.1 < 65536 := p3.2.2.2.2.2.1.1
      rw [if_neg (show ¬ nI (if (some q : Option ap_P) = none then 0 else 1) = 0 by rw [if_neg (fun z => by cases z)]; decide), p2]
      by_cases ci : q.1 = id
      · rw [if_neg (show ¬ ¬ nI q.1 = nI id from fun z => z (by rw [ci]))]
        by_cases ct : tok = some (c.1 s 3)
        · rw [if_neg (show ¬ ¬ nI (c.1 s 3) = oI tok from fun z => z ((oI_eq htk (by omega)).mpr ct)), if_pos (show sl_asked (c.1 s) (some q) id tok from ⟨c2, by rw [← ci]; rfl, ct⟩)]
        · rw [if_pos (show ¬ nI (c.1 s 3) = oI tok from fun z => ct ((oI_eq htk (by omega)).mp z)), if_neg (show ¬ sl_asked (c.1 s) (some q) id tok from fun z => ct z.2.2)]
      · rw [if_pos (show ¬ nI q.1 = nI id from fun z => ci ((nI_eq (by omega) (by omega)).mp z)), if_neg (show ¬ sl_asked (c.1 s) (some q) id tok from fun z => ci (by have := z.2.1; simpa using this))]
  · rw [if_pos (show ¬ nI (c.1 s 2) = (1 : Int32) from fun z => c2 ((nI_eq (b := 1) (by omega) (by omega)).mp z)), if_neg (show ¬ sl_asked (c.1 s) (c.2.2.1 s) id tok from fun z => c2 z.1)]
theorem y_cl97 {fu : Nat} (hS : mo_sh t) (h : mo_Ci t c) (hm : mo_Mm t ty code id tok w b2 b1 S P) (hs : s < 2) : B_Mo_toClient_97 (fu + 1) 103 (nI s) t = if sl_watched (c.1 s) tok then (X_Mo_told 103 (nI s) t).bind fun u => some u else B_Mo_toClient_97 fu 103 (nI (s + 1)) t := by
  obtain ⟨e114, e116, e122, ok, so⟩ := (h.1 s hs).1.g
  obtain ⟨g49, g50, g51, g52, g53, g57, g58, gP, gS, mok, sok⟩ := hm
  have htk : ∀ x, tok = some x → x < 2 ^ 31 := fun x hx => by have := mok.2.2.2.1 x hx; omega
  have o2 := ok.1
  have o3 := ok.2.1
  have o11 : c.1 s 11 < 2 := ok.2.2.2.2.2.2.2.2.2.1
  simp (disch := first | assumption | (simp only [mo_shs]; assumption) | omega | (simp; done) | contradiction) only [B_Mo_toClient_97, B_Mo_toClient_130, ob_i_self, ob_i_n, ob_i_k, mo_shs, Option.bind_some, ob_b2_s, mo_this, mo_g, mo_p, mo_r0, mo_r1, mo_r2, mo_r7, mo_r8, mo_r9, mo_r10, mo_r11, mo_r12, mo_r13, mo_r14, mo_r15, mo_r16, mo_r17, mo_r18, mo_r19, mo_r20, mo_r21, mo_r22, mo_r23, mo_r24, mo_r25, mo_r26, mo_r27, mo_r28, mo_r29, mo_r30, mo_r31, mo_r33, mo_r34, mo_r35, mo_r36, mo_r40, mo_r41, mo_r42, mo_r43, mo_r44, mo_r47, mo_r55, mo_r56, mo_a104, mo_a105, mo_a106, mo_a107, mo_a108, mo_a109, mo_a110, mo_a111, mo_a112, mo_a113, mo_a114, mo_a115, mo_a116, mo_a117, mo_a118, mo_a119, mo_a120, mo_a121, mo_a122, mo_a123, mo_a124, mo_a125, mo_a126, mo_a127, mo_a128, mo_a129, mo_a130, mo_a131, mo_a132, mo_a133, mo_a134, mo_a135, mo_a136, mo_a137, mo_a138, mo_a139, mo_a140, mo_a141, mo_a142, mo_a143, mo_w104, mo_w105, mo_w106, mo_w107, mo_w108, mo_w109, mo_w110, mo_w111, mo_w112, mo_w113, mo_w114, mo_w115, mo_w116, mo_w117, mo_w118, mo_w119, mo_w120, mo_w121, mo_w122, mo_w123, mo_w124, mo_w125, mo_w126, mo_w127, mo_w128, mo_w129, mo_w130, mo_w131, mo_w132, mo_w133, mo_w134, mo_w135, mo_w136, mo_w137, mo_w138, mo_w139, mo_w140, mo_w141, mo_w142, mo_w143, e122, e116, g52, nI_1]
  rw [if_neg (show ¬ (2 : Int32) ≤ nI s from nI_ge (b := 2) hs (by omega))]
  by_cases c2 : c.1 s 2 = 0
  · rw [if_pos (show nI (if c.1 s 2 = 0 then 0 else c.1 s 11) = 0 by rw [if_pos c2]; rfl), if_neg (show ¬ sl_watched (c.1 s) tok from fun z => z.1 c2)]
  · rw [if_neg c2]
    by_cases c11 : c.1 s 11 = 0
    · rw [if_pos (show nI (c.1 s 11) = 0 by rw [c11]; rfl), if_neg (show ¬ sl_watched (c.1 s) tok from fun z => z.2.1 c11)]
    · rw [if_neg (nI_ne0 (by omega) (by omega))]
      by_cases ct : tok = some (c.1 s 3)
      · rw [if_neg (show ¬ ¬ nI (c.1 s 3) = oI tok from fun z => z ((oI_eq htk (by omega)).mpr ct)), if_pos (show sl_watched (c.1 s) tok from ⟨c2, c11, ct⟩)]
      · rw [if_pos (show ¬ nI (c.1 s 3) = oI tok from fun z => ct ((oI_eq htk (by omega)).mp z)), if_neg (show ¬ sl_watched (c.1 s) tok from fun z => ct z.2.2)]
theorem y_toClient (hS : mo_sh t) (h : mo_Ci t c) (hm : mo_Mm t ty code id tok w b2 b1 S P) (htc : code = 0 → tok = none) : ∃ u, X_Mo_toClient 103 t = some u ∧ mo_Ci u (cl_recv c ty code id tok w b2 P) ∧ mo_F dCl t u := by
  have m0 := hm
  obtain ⟨g49, g50, g51, g52, g53, g57, g58, gP, gS, mok, sok⟩ := hm
  have hty := mok.1
  have hco := mok.2.1
  have hid := mok.2.2.1
  simp (disch := first | assumption | (simp only [mo_shs]; assumption) | omega | (simp; done) | contradiction) only [X_Mo_toClient, ob_i_self, ob_i_n, ob_i_k, mo_shs, Option.bind_some, ob_b2_s, mo_this, mo_g, mo_p, mo_r0, mo_r1, mo_r2, mo_r7, mo_r8, mo_r9, mo_r10, mo_r11, mo_r12, mo_r13, mo_r14, mo_r15, mo_r16, mo_r17, mo_r18, mo_r19, mo_r20, mo_r21, mo_r22, mo_r23, mo_r24, mo_r25, mo_r26, mo_r27, mo_r28, mo_r29, mo_r30, mo_r31, mo_r33, mo_r34, mo_r35, mo_r36, mo_r40, mo_r41, mo_r42, mo_r43, mo_r44, mo_r47, mo_r55, mo_r56, mo_a104, mo_a105, mo_a106, mo_a107, mo_a108, mo_a109, mo_a110, mo_a111, mo_a112, mo_a113, mo_a114, mo_a115, mo_a116, mo_a117, mo_a118, mo_a119, mo_a120, mo_a121, mo_a122, mo_a123, mo_a124, mo_a125, mo_a126, mo_a127, mo_a128, mo_a129, mo_a130, mo_a131, mo_a132, mo_a133, mo_a134, mo_a135, mo_a136, mo_a137, mo_a138, mo_a139, mo_a140, mo_a141, mo_a142, mo_a143, mo_w104, mo_w105, mo_w106, mo_w107, mo_w108, mo_w109, mo_w110, mo_w111, mo_w112, mo_w113, mo_w114, mo_w115, mo_w116, mo_w117, mo_w118, mo_w119, mo_w120, mo_w121, mo_w122, mo_w123, mo_w124, mo_w125, mo_w126, mo_w127, mo_w128, mo_w129, mo_w130, mo_w131, mo_w132, mo_w133, mo_w134, mo_w135, mo_w136, mo_w137, mo_w138, mo_w139, mo_w140, mo_w141, mo_w142, mo_w143, g49, g50]
  by_cases c2 : ty = 2
  · have e79 : B_Mo_toClient_79 103 t = some t := by
      simp (disch := first | assumption | (simp only [mo_shs]; assumption) | omega | (simp; done) | contradiction) only [B_Mo_toClient_79, ob_i_self, ob_i_n, ob_i_k, mo_shs, Option.bind_some, ob_b2_s, mo_this, mo_g, mo_p, mo_r0, mo_r1, mo_r2, mo_r7, mo_r8, mo_r9, mo_r10, mo_r11, mo_r12, mo_r13, mo_r14, mo_r15, mo_r16, mo_r17, mo_r18, mo_r19, mo_r20, mo_r21, mo_r22, mo_r23, mo_r24, mo_r25, mo_r26, mo_r27, mo_r28, mo_r29, mo_r30, mo_r31, mo_r33, mo_r34, mo_r35, mo_r36, mo_r40, mo_r41, mo_r42, mo_r43, mo_r44, mo_r47, mo_r55, mo_r56, mo_a104, mo_a105, mo_a106, mo_a107, mo_a108, mo_a109, mo_a110, mo_a111, mo_a112, mo_a113, mo_a114, mo_a115, mo_a116, mo_a117, mo_a118, mo_a119, mo_a120, mo_a121, mo_a122, mo_a123, mo_a124, mo_a125, mo_a126, mo_a127, mo_a128, mo_a129, mo_a130, mo_a131, mo_a132, mo_a133, mo_a134, mo_a135, mo_a136, mo_a137, mo_a138, mo_a139, mo_a140, mo_a141, mo_a142, mo_a143, mo_w104, mo_w105, mo_w106, mo_w107, mo_w108, mo_w109, mo_w110, mo_w111, mo_w112, mo_w113, mo_w114, mo_w115, mo_w116, mo_w117, mo_w118, mo_w119, mo_w120, mo_w121, mo_w122, mo_w123, mo_w124, mo_w125, mo_w126, mo_w127, mo_w128, mo_w129, mo_w130, mo_w131, mo_w132, mo_w133, mo_w134, mo_w135, mo_w136, mo_w137, mo_w138, mo_w139, mo_w140, mo_w141, mo_w142, mo_w143, g49]
      rw [if_pos (nI_ne0 (by omega) (by omega))]
    rw [if_neg (show ¬ ¬ nI ty = (2 : Int32) from fun z => z (by rw [c2]; rfl)), cl_recv, if_pos c2, e79]
    by_cases c0 : code = 0
    · have ht := htc c0
      rw [if_pos (show nI code = 0 by rw [c0]; rfl), cl_recvA, if_neg (fun z => by rw [ht] at z; cases z.2.2), if_neg (fun z => by rw [ht] at z; cases z.2.2)]
      exact ⟨t, rfl, h, mo_F.rf⟩
    · rw [if_neg (nI_ne0 (by omega) (by omega)), show B_Mo_toClient_17 ob_fu 103 0 t = _ from y_cl17 (s := 0) (fu := 1999) hS h m0 (by omega)]
      rw [cl_recvA]
      by_cases a0 : sl_asked (c.1 0) (c.2.2.1 0) id tok
      · rw [if_pos a0, if_pos a0]
        obtain ⟨u, eu, q⟩ := y_answered hS h m0 (s := 0) (by omega) a0.1
        exact ⟨u, by rw [eu]; rfl, q⟩
      · rw [if_neg a0, if_neg a0, y_cl17 (s := 1) (fu := 1998) hS h m0 (by omega)]
        by_cases a1 : sl_asked (c.1 1) (c.2.2.1 1) id tok
        · rw [if_pos a1, if_pos a1]
          obtain ⟨u, eu, q⟩ := y_answered hS h m0 (s := 1) (by omega) a1.1
          exact ⟨u, by rw [eu]; rfl, q⟩
        · rw [if_neg a1, if_neg a1]
          refine ⟨t, ?_, h, mo_F.rf⟩
          show B_Mo_toClient_17 (1997 + 1) 103 (nI 2) t = some t
          rw [B_Mo_toClient_17, if_pos (show (2 : Int32) ≤ nI 2 by decide), e79]
  · rw [if_pos (show ¬ nI ty = (2 : Int32) from fun z => c2 ((nI_eq (b := 2) (by omega) (by omega)).mp z)), cl_recv, if_neg c2]
    simp (disch := first | assumption | (simp only [mo_shs]; assumption) | omega | (simp; done) | contradiction) only [B_Mo_toClient_79, ob_i_self, ob_i_n, ob_i_k, mo_shs, Option.bind_some, ob_b2_s, mo_this, mo_g, mo_p, mo_r0, mo_r1, mo_r2, mo_r7, mo_r8, mo_r9, mo_r10, mo_r11, mo_r12, mo_r13, mo_r14, mo_r15, mo_r16, mo_r17, mo_r18, mo_r19, mo_r20, mo_r21, mo_r22, mo_r23, mo_r24, mo_r25, mo_r26, mo_r27, mo_r28, mo_r29, mo_r30, mo_r31, mo_r33, mo_r34, mo_r35, mo_r36, mo_r40, mo_r41, mo_r42, mo_r43, mo_r44, mo_r47, mo_r55, mo_r56, mo_a104, mo_a105, mo_a106, mo_a107, mo_a108, mo_a109, mo_a110, mo_a111, mo_a112, mo_a113, mo_a114, mo_a115, mo_a116, mo_a117, mo_a118, mo_a119, mo_a120, mo_a121, mo_a122, mo_a123, mo_a124, mo_a125, mo_a126, mo_a127, mo_a128, mo_a129, mo_a130, mo_a131, mo_a132, mo_a133, mo_a134, mo_a135, mo_a136, mo_a137, mo_a138, mo_a139, mo_a140, mo_a141, mo_a142, mo_a143, mo_w104, mo_w105, mo_w106, mo_w107, mo_w108, mo_w109, mo_w110, mo_w111, mo_w112, mo_w113, mo_w114, mo_w115, mo_w116, mo_w117, mo_w118, mo_w119, mo_w120, mo_w121, mo_w122, mo_w123, mo_w124, mo_w125, mo_w126, mo_w127, mo_w128, mo_w129, mo_w130, mo_w131, mo_w132, mo_w133, mo_w134, mo_w135, mo_w136, mo_w137, mo_w138, mo_w139, mo_w140, mo_w141, mo_w142, mo_w143, g49, g50]
    by_cases c0 : ty = 0 ∧ code = 69
    · rw [if_neg (show ¬ ¬ nI ty = 0 from fun z => z (by rw [c0.1]; rfl)), if_neg (show ¬ ¬ nI code = (69 : Int32) from fun z => z (by rw [c0.2]; rfl)), if_pos c0, show B_Mo_toClient_97 ob_fu 103 0 t = _ from y_cl97 (s := 0) (fu := 1999) hS h m0 (by omega), cl_recvN]
      have so0 := (h.1 0 (by omega)).1.g.2.2.2.2.2.1
      have so1 := (h.1 1 (by omega)).1.g.2.2.2.2.2.1
      by_cases a0 : sl_watched (c.1 0) tok
      · rw [if_pos a0, if_neg (show ¬ sl_watched (c.1 1) tok from fun z => by
          have z0 := so0 a0.1
          have z1 := so1 z.1
          have := a0.2.2.symm.trans z.2.2
          have : c.1 0 3 = c.1 1 3 := by simpa using this
          omega), if_pos a0]
        obtain ⟨u, eu, q⟩ := y_told hS h m0 (s := 0) (by omega) a0.1 a0.2.1
        exact ⟨u, by rw [eu]; rfl, q⟩
      · rw [if_neg a0, if_neg a0, y_cl97 (s := 1) (fu := 1998) hS h m0 (by omega)]
        by_cases a1 : sl_watched (c.1 1) tok
        · rw [if_pos a1, if_pos a1]
          obtain ⟨u, eu, q⟩ := y_told hS h m0 (s := 1) (by omega) a1.1 a1.2.1
          exact ⟨u, by rw [eu]; rfl, q⟩
        · rw [if_neg a1, if_neg a1]
          obtain ⟨u, eu, q, f⟩ := mo_Ci.bare (u := t) (id := id) 3 hS h (by omega) hid
          refine ⟨u, ?_, q, f.mono (fun n j z => by omega)⟩
          show B_Mo_toClient_97 (1997 + 1) 103 (nI 2) t = some u
          rw [B_Mo_toClient_97, if_pos (show (2 : Int32) ≤ nI 2 by decide)]
          simp (disch := first | assumption | (simp only [mo_shs]; assumption) | omega | (simp; done) | contradiction) only [ob_i_self, ob_i_n, ob_i_k, mo_shs, Option.bind_some, ob_b2_s, mo_this, mo_g, mo_p, mo_r0, mo_r1, mo_r2, mo_r7, mo_r8, mo_r9, mo_r10, mo_r11, mo_r12, mo_r13, mo_r14, mo_r15, mo_r16, mo_r17, mo_r18, mo_r19, mo_r20, mo_r21, mo_r22, mo_r23, mo_r24, mo_r25, mo_r26, mo_r27, mo_r28, mo_r29, mo_r30, mo_r31, mo_r33, mo_r34, mo_r35, mo_r36, mo_r40, mo_r41, mo_r42, mo_r43, mo_r44, mo_r47, mo_r55, mo_r56, mo_a104, mo_a105, mo_a106, mo_a107, mo_a108, mo_a109, mo_a110, mo_a111, mo_a112, mo_a113, mo_a114, mo_a115, mo_a116, mo_a117, mo_a118, mo_a119, mo_a120, mo_a121, mo_a122, mo_a123, mo_a124, mo_a125, mo_a126, mo_a127, mo_a128, mo_a129, mo_a130, mo_a131, mo_a132, mo_a133, mo_a134, mo_a135, mo_a136, mo_a137, mo_a138, mo_a139, mo_a140, mo_a141, mo_a142, mo_a143, mo_w104, mo_w105, mo_w106, mo_w107, mo_w108, mo_w109, mo_w110, mo_w111, mo_w112, mo_w113, mo_w114, mo_w115, mo_w116, mo_w117, mo_w118, mo_w119, mo_w120, mo_w121, mo_w122, mo_w123, mo_w124, mo_w125, mo_w126, mo_w127, mo_w128, mo_w129, mo_w130, mo_w131, mo_w132, mo_w133, mo_w134, mo_w135, mo_w136, mo_w137, mo_w138, mo_w139, mo_w140, mo_w141, mo_w142, mo_w143, g51]
          rw [show X_Mo_bare 103 3 (nI id) 1 t = some u from eu]
          rfl
    · rw [if_neg c0]
      refine ⟨t, ?_, h, mo_F.rf⟩
      by_cases c1 : ty = 0
      · rw [if_neg (show ¬ ¬ nI ty = 0 from fun z => z (by rw [c1]; rfl)), if_pos (show ¬ nI code = (69 : Int32) from fun z => c0 ⟨c1, (nI_eq (b := 69) (by omega) (by omega)).mp z⟩)]
      · rw [if_pos (nI_ne0 (by omega) (by omega))]
end YTC

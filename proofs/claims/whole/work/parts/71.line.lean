/-! LAYER 2, 31: the reference's line and what waits -/
abbrev dL : Nat → Nat → Prop := fun n j => n = 104 ∨ n = 105 ∨ n = 106 ∨ (n = 103 ∧ j = 3)
def mo_dg (t : ob_S) (k : Nat) (q : List Nat × Nat) : Prop := ob_i t 105 k = nI q.1.length ∧ ob_i t 106 k = nI q.2 ∧ mo_rw t 104 (64 * k) q.1 ∧ q.1.length ≤ 48 ∧ (∀ x ∈ q.1, x < 256) ∧ q.2 < 2
def mo_Li (t : ob_S) (LL : List (List Nat × Nat)) : Prop := ob_i t 103 3 = nI LL.length ∧ LL.length ≤ 16 ∧ ∀ k q, LL[k]? = some q → mo_dg t k q
theorem mo_dg.f {D : Nat → Nat → Prop} {t u : ob_S} {k : Nat} {q : List Nat × Nat} (h : mo_dg t k q) (f : mo_F D t u) (h1 : ¬ D 105 k) (h2 : ¬ D 106 k) (h3 : ∀ j, 64 * k ≤ j → j < 64 * k + 64 → ¬ D 104 j) : mo_dg u k q := ⟨(f.2.2.2.2 _ _ h1).trans h.1, (f.2.2.2.2 _ _ h2).trans h.2.1, h.2.2.1.f f (fun j a b => h3 j a (by have := h.2.2.2.1; omega)), h.2.2.2⟩
theorem mo_Li.f {D : Nat → Nat → Prop} {t u : ob_S} {LL : List (List Nat × Nat)} (h : mo_Li t LL) (f : mo_F D t u) (hD : ∀ n j, dL n j → ¬ D n j) : mo_Li u LL := ⟨(f.2.2.2.2 _ _ (hD _ _ (by omega))).trans h.1, h.2.1, fun k q e => (h.2.2 k q e).f f (hD _ _ (by omega)) (hD _ _ (by omega)) (fun j _ _ => hD _ _ (by omega))⟩
theorem y_send {t : ob_S} {LL : List (List Nat × Nat)} {L : List Nat} {last : Nat} {g : Int32} (e : Nat) (h : mo_Li t LL) (o : mo_Out t L last) (hg : g = nI e) (he : e < 2) (hl : L.length ≤ 48) : ∃ u, X_Mo_send 103 g t = some u ∧ mo_Li u (af_send LL L e) ∧ mo_F dL t u := by
  obtain ⟨h1, h2, h3⟩ := h
  obtain ⟨o1, o2, o3, o4, o5, o6⟩ := o
  subst hg
  simp (disch := first | assumption | (simp only [mo_shs]; assumption) | omega | (simp; done)) only [X_Mo_send, ob_i_self, ob_i_n, ob_i_k, mo_shs, Option.bind_some, ob_b2_s, mo_this, mo_g, mo_p, mo_r0, mo_r1, mo_r2, mo_r7, mo_r8, mo_r9, mo_r10, mo_r11, mo_r12, mo_r13, mo_r14, mo_r15, mo_r16, mo_r17, mo_r18, mo_r19, mo_r20, mo_r21, mo_r22, mo_r23, mo_r24, mo_r25, mo_r26, mo_r27, mo_r28, mo_r29, mo_r30, mo_r31, mo_r33, mo_r34, mo_r35, mo_r36, mo_r40, mo_r41, mo_r42, mo_r43, mo_r44, mo_r47, mo_r55, mo_r56, mo_a104, mo_a105, mo_a106, mo_a107, mo_a108, mo_a109, mo_a110, mo_a111, mo_a112, mo_a113, mo_a114, mo_a115, mo_a116, mo_a117, mo_a118, mo_a119, mo_a120, mo_a121, mo_a122, mo_a123, mo_a124, mo_a125, mo_a126, mo_a127, mo_a128, mo_a129, mo_a130, mo_a131, mo_a132, mo_a133, mo_a134, mo_a135, mo_a136, mo_a137, mo_a138, mo_a139, mo_a140, mo_a141, mo_a142, mo_a143, mo_w104, mo_w105, mo_w106, mo_w107, mo_w108, mo_w109, mo_w110, mo_w111, mo_w112, mo_w113, mo_w114, mo_w115, mo_w116, mo_w117, mo_w118, mo_w119, mo_w120, mo_w121, mo_w122, mo_w123, mo_w124, mo_w125, mo_w126, mo_w127, mo_w128, mo_w129, mo_w130, mo_w131, mo_w132, mo_w133, mo_w134, mo_w135, mo_w136, mo_w137, mo_w138, mo_w139, mo_w140, mo_w141, mo_w142, mo_w143, h1]
  by_cases c : LL.length = 16
  · refine ⟨t, ?_, ?_, mo_F.rf⟩
    · rw [if_neg (fun z => z (by rw [c]; rfl))]
    · rw [af_send, if_neg (by omega)]
      exact ⟨h1, h2, h3⟩
  · rw [if_pos (show ¬ nI LL.length = 16 from fun z => c ((nI_eq (b := 16) (by omega) (by omega)).mp z))]
    obtain ⟨fu, u, eu, f, hv⟩ := mo_loop (G := fun fu i s => B_Mo_send_12 fu 103 (nI e) i s) (dst := 104) (o := 64 * LL.length) (n := L.length) (val := fun i => nI (L.getD i 0)) (t := t) (fun fu i u hi f => by
      have s1 := o1.f f
      have e45 : ob_i u 103 45 = nI L.length := (f.2.2.2.2 _ _ (by omega)).trans o2
      have e3 : ob_i u 103 3 = nI LL.length := (f.2.2.2.2 _ _ (by omega)).trans h1
      have e140 : ob_i u 140 i = nI (L.getD i 0) := by
        have := o5 i hi
        rw [Nat.zero_add] at this
        exact (f.2.2.2.2 _ _ (by omega)).trans this
      simp (disch := first | assumption | (simp only [mo_shs]; assumption) | omega | (simp; done)) only [B_Mo_send_12, ob_i_self, ob_i_n, ob_i_k, mo_shs, Option.bind_some, ob_b2_s, mo_this, mo_g, mo_p, mo_r0, mo_r1, mo_r2, mo_r7, mo_r8, mo_r9, mo_r10, mo_r11, mo_r12, mo_r13, mo_r14, mo_r15, mo_r16, mo_r17, mo_r18, mo_r19, mo_r20, mo_r21, mo_r22, mo_r23, mo_r24, mo_r25, mo_r26, mo_r27, mo_r28, mo_r29, mo_r30, mo_r31, mo_r33, mo_r34, mo_r35, mo_r36, mo_r40, mo_r41, mo_r42, mo_r43, mo_r44, mo_r47, mo_r55, mo_r56, mo_a104, mo_a105, mo_a106, mo_a107, mo_a108, mo_a109, mo_a110, mo_a111, mo_a112, mo_a113, mo_a114, mo_a115, mo_a116, mo_a117, mo_a118, mo_a119, mo_a120, mo_a121, mo_a122, mo_a123, mo_a124, mo_a125, mo_a126, mo_a127, mo_a128, mo_a129, mo_a130, mo_a131, mo_a132, mo_a133, mo_a134, mo_a135, mo_a136, mo_a137, mo_a138, mo_a139, mo_a140, mo_a141, mo_a142, mo_a143, mo_w104, mo_w105, mo_w106, mo_w107, mo_w108, mo_w109, mo_w110, mo_w111, mo_w112, mo_w113, mo_w114, mo_w115, mo_w116, mo_w117, mo_w118, mo_w119, mo_w120, mo_w121, mo_w122, mo_w123, mo_w124, mo_w125, mo_w126, mo_w127, mo_w128, mo_w129, mo_w130, mo_w131, mo_w132, mo_w133, mo_w134, mo_w135, mo_w136, mo_w137, mo_w138, mo_w139, mo_w140, mo_w141, mo_w142, mo_w143, e45, e3, e140, mo_x64, nI_1]
      rw [if_neg (nI_ge hi (by omega))]) ob_fu (by show L.length < 2000; omega)
    have s1 := o1.f f
    have e45 : ob_i u 103 45 = nI L.length := (f.2.2.2.2 _ _ (by omega)).trans o2
    have e3 : ob_i u 103 3 = nI LL.length := (f.2.2.2.2 _ _ (by omega)).trans h1
    refine ⟨ob_setI (ob_setI (ob_setI u 105 LL.length (nI L.length)) 106 LL.length (nI e)) 103 3 (nI (LL.length + 1)), ?_, ?_, ((((f.mono (fun n j z => by omega)).s (by omega)).s (by omega)).s (by omega))⟩
    · rw [eu]
      simp (disch := first | assumption | (simp only [mo_shs]; assumption) | omega | (simp; done)) only [B_Mo_send_12, ob_i_self, ob_i_n, ob_i_k, mo_shs, Option.bind_some, ob_b2_s, mo_this, mo_g, mo_p, mo_r0, mo_r1, mo_r2, mo_r7, mo_r8, mo_r9, mo_r10, mo_r11, mo_r12, mo_r13, mo_r14, mo_r15, mo_r16, mo_r17, mo_r18, mo_r19, mo_r20, mo_r21, mo_r22, mo_r23, mo_r24, mo_r25, mo_r26, mo_r27, mo_r28, mo_r29, mo_r30, mo_r31, mo_r33, mo_r34, mo_r35, mo_r36, mo_r40, mo_r41, mo_r42, mo_r43, mo_r44, mo_r47, mo_r55, mo_r56, mo_a104, mo_a105, mo_a106, mo_a107, mo_a108, mo_a109, mo_a110, mo_a111, mo_a112, mo_a113, mo_a114, mo_a115, mo_a116, mo_a117, mo_a118, mo_a119, mo_a120, mo_a121, mo_a122, mo_a123, mo_a124, mo_a125, mo_a126, mo_a127, mo_a128, mo_a129, mo_a130, mo_a131, mo_a132, mo_a133, mo_a134, mo_a135, mo_a136, mo_a137, mo_a138, mo_a139, mo_a140, mo_a141, mo_a142, mo_a143, mo_w104, mo_w105, mo_w106, mo_w107, mo_w108, mo_w109, mo_w110, mo_w111, mo_w112, mo_w113, mo_w114, mo_w115, mo_w116, mo_w117, mo_w118, mo_w119, mo_w120, mo_w121, mo_w122, mo_w123, mo_w124, mo_w125, mo_w126, mo_w127, mo_w128, mo_w129, mo_w130, mo_w131, mo_w132, mo_w133, mo_w134, mo_w135, mo_w136, mo_w137, mo_w138, mo_w139, mo_w140, mo_w141, mo_w142, mo_w143, e45, e3, nI_1]
      rw [if_pos (nI_le (Nat.le_refl _) (by omega))]
    · rw [af_send, if_pos (by omega)]
      refine ⟨by simp [mo_is], by simp; omega, fun k q hq => ?_⟩
      by_cases ck : k < LL.length
      · rw [List.getElem?_append_left ck] at hq
        exact (h3 k q hq).f (D := fun n j => (n = 104 ∧ 64 * LL.length ≤ j ∧ j < 64 * LL.length + L.length) ∨ (n = 105 ∧ j = LL.length) ∨ (n = 106 ∧ j = LL.length) ∨ (n = 103 ∧ j = 3)) ((((f.mono (fun n j z => by omega)).s (by omega)).s (by omega)).s (by omega)) (by omega) (by omega) (fun j _ _ => by omega)
      · rw [List.getElem?_append_right (by omega)] at hq
        have e0 : k = LL.length := by
          by_cases c2 : k = LL.length
          · exact c2
          · rw [List.getElem?_eq_none (by simp; omega)] at hq
            cases hq
        subst e0
        simp at hq
        subst hq
        exact ⟨by simp [mo_is], by simp [mo_is], fun i hi => by
          have := hv i hi
          simp [mo_is, this], hl, o6, he⟩
/-- what waits at place p -/
abbrev dP (p : Nat) : Nat → Nat → Prop := fun n j => (107 ≤ n ∧ n ≤ 113 ∧ n ≠ 112 ∧ j = p) ∨ (n = 112 ∧ 64 * p ≤ j ∧ j < 64 * p + 64)
def mo_Pe (t : ob_S) (p : Nat) (o : Option ap_P) : Prop := match o with
  | none => ob_i t 107 p = 0
  | some q => ob_i t 107 p = 1 ∧ ob_i t 108 p = nI q.1 ∧ ob_i t 109 p = nI q.2.1 ∧ ob_i t 110 p = nI q.2.2.1 ∧ ob_i t 111 p = nI q.2.2.2.1 ∧ ob_i t 113 p = nI q.2.2.2.2.length ∧ mo_rw t 112 (64 * p) q.2.2.2.2 ∧ ap_ok q ∧ ∀ x ∈ q.2.2.2.2, x < 256
theorem mo_Pe.f {D : Nat → Nat → Prop} {t u : ob_S} {p : Nat} {o : Option ap_P} (h : mo_Pe t p o) (f : mo_F D t u) (hD : ∀ n j, dP p n j → ¬ D n j) : mo_Pe u p o := by
  cases o with
  | none => exact (f.2.2.2.2 _ _ (hD _ _ (by omega))).trans h
  | some q =>
    obtain ⟨h1, h2, h3, h4, h5, h6, h7, h8, h9⟩ := h
    exact ⟨(f.2.2.2.2 _ _ (hD _ _ (by omega))).trans h1, (f.2.2.2.2 _ _ (hD _ _ (by omega))).trans h2, (f.2.2.2.2 _ _ (hD _ _ (by omega))).trans h3, (f.2.2.2.2 _ _ (hD _ _ (by omega))).trans h4, (f.2.2.2.2 _ _ (hD _ _ (by omega))).trans h5, (f.2.2.2.2 _ _ (hD _ _ (by omega))).trans h6, h7.f f (fun j a b => hD _ _ (by have := h8.2.2.2.2.2; omega)), h8, h9⟩
theorem mo_Pe.act {t : ob_S} {p : Nat} {o : Option ap_P} (h : mo_Pe t p o) : ob_i t 107 p = nI (if o = none then 0 else 1) := by
  cases o with
  | none => exact h
  | some q => exact h.1
theorem y_hold {t : ob_S} {L : List Nat} {last p : Nat} (id : Nat) (h : mo_Out t L last) (hp : p < 4) (hid : id < 65536) (hl : L.length ≤ 48) : ∃ u, X_Mo_hold 103 (nI p) (nI id) t = some u ∧ mo_Pe u p (some (id, 4, 4, 0, L)) ∧ mo_F (dP p) t u := by
  obtain ⟨h1, h2, h3, h4, h5, h6⟩ := h
  let t1 := ob_setI (ob_setI (ob_setI (ob_setI (ob_setI (ob_setI t 107 p 1) 108 p (nI id)) 109 p 4) 110 p 4) 111 p 0) 113 p (nI L.length)
  have f1 : mo_F (dP p) t t1 := ((((((mo_F.o (by omega)).s (by omega)).s (by omega)).s (by omega)).s (by omega)).s (by omega))
  have s1 : mo_sh t1 := h1
  obtain ⟨fu, u, eu, f, hv⟩ := mo_loop (G := fun fu i s => B_Mo_hold_47 fu 103 (nI p) i s) (dst := 112) (o := 64 * p) (n := L.length) (val := fun i => nI (L.getD i 0)) (t := t1) (fun fu i u hi f => by
    have s2 := s1.f f
    have e45 : ob_i u 103 45 = nI L.length := (f.2.2.2.2 _ _ (by omega)).trans ((f1.2.2.2.2 _ _ (by omega)).trans h2)
    have e140 : ob_i u 140 i = nI (L.getD i 0) := by
      have := h5 i hi
      rw [Nat.zero_add] at this
      exact (f.2.2.2.2 _ _ (by omega)).trans ((f1.2.2.2.2 _ _ (by omega)).trans this)
    simp (disch := first | assumption | (simp only [mo_shs]; assumption) | omega | (simp; done)) only [B_Mo_hold_47, ob_i_self, ob_i_n, ob_i_k, mo_shs, Option.bind_some, ob_b2_s, mo_this, mo_g, mo_p, mo_r0, mo_r1, mo_r2, mo_r7, mo_r8, mo_r9, mo_r10, mo_r11, mo_r12, mo_r13, mo_r14, mo_r15, mo_r16, mo_r17, mo_r18, mo_r19, mo_r20, mo_r21, mo_r22, mo_r23, mo_r24, mo_r25, mo_r26, mo_r27, mo_r28, mo_r29, mo_r30, mo_r31, mo_r33, mo_r34, mo_r35, mo_r36, mo_r40, mo_r41, mo_r42, mo_r43, mo_r44, mo_r47, mo_r55, mo_r56, mo_a104, mo_a105, mo_a106, mo_a107, mo_a108, mo_a109, mo_a110, mo_a111, mo_a112, mo_a113, mo_a114, mo_a115, mo_a116, mo_a117, mo_a118, mo_a119, mo_a120, mo_a121, mo_a122, mo_a123, mo_a124, mo_a125, mo_a126, mo_a127, mo_a128, mo_a129, mo_a130, mo_a131, mo_a132, mo_a133, mo_a134, mo_a135, mo_a136, mo_a137, mo_a138, mo_a139, mo_a140, mo_a141, mo_a142, mo_a143, mo_w104, mo_w105, mo_w106, mo_w107, mo_w108, mo_w109, mo_w110, mo_w111, mo_w112, mo_w113, mo_w114, mo_w115, mo_w116, mo_w117, mo_w118, mo_w119, mo_w120, mo_w121, mo_w122, mo_w123, mo_w124, mo_w125, mo_w126, mo_w127, mo_w128, mo_w129, mo_w130, mo_w131, mo_w132, mo_w133, mo_w134, mo_w135, mo_w136, mo_w137, mo_w138, mo_w139, mo_w140, mo_w141, mo_w142, mo_w143, e45, e140, mo_x64, nI_1]
    rw [if_neg (nI_ge hi (by omega))]) ob_fu (by show L.length < 2000; omega)
  have s2 := s1.f f
  have e45 : ob_i u 103 45 = nI L.length := (f.2.2.2.2 _ _ (by omega)).trans ((f1.2.2.2.2 _ _ (by omega)).trans h2)
  refine ⟨u, ?_, ⟨?_, ?_, ?_, ?_, ?_, ?_, fun i hi => hv i hi, ⟨hid, ⟨by show 1 ≤ 4; omega, by show 4 ≤ 1000; omega⟩, by show 0 ≤ 3; omega, by show 4 ≤ 4 * 2 ^ 0; omega, by show 1 ≤ 4; omega, hl⟩, h6⟩, f1.tr (f.mono (fun n j z => by omega))⟩
  · simp (disch := first | assumption | (simp only [mo_shs]; assumption) | omega | (simp; done)) only [X_Mo_hold, ob_i_self, ob_i_n, ob_i_k, mo_shs, Option.bind_some, ob_b2_s, mo_this, mo_g, mo_p, mo_r0, mo_r1, mo_r2, mo_r7, mo_r8, mo_r9, mo_r10, mo_r11, mo_r12, mo_r13, mo_r14, mo_r15, mo_r16, mo_r17, mo_r18, mo_r19, mo_r20, mo_r21, mo_r22, mo_r23, mo_r24, mo_r25, mo_r26, mo_r27, mo_r28, mo_r29, mo_r30, mo_r31, mo_r33, mo_r34, mo_r35, mo_r36, mo_r40, mo_r41, mo_r42, mo_r43, mo_r44, mo_r47, mo_r55, mo_r56, mo_a104, mo_a105, mo_a106, mo_a107, mo_a108, mo_a109, mo_a110, mo_a111, mo_a112, mo_a113, mo_a114, mo_a115, mo_a116, mo_a117, mo_a118, mo_a119, mo_a120, mo_a121, mo_a122, mo_a123, mo_a124, mo_a125, mo_a126, mo_a127, mo_a128, mo_a129, mo_a130, mo_a131, mo_a132, mo_a133, mo_a134, mo_a135, mo_a136, mo_a137, mo_a138, mo_a139, mo_a140, mo_a141, mo_a142, mo_a143, mo_w104, mo_w105, mo_w106, mo_w107, mo_w108, mo_w109, mo_w110, mo_w111, mo_w112, mo_w113, mo_w114, mo_w115, mo_w116, mo_w117, mo_w118, mo_w119, mo_w120, mo_w121, mo_w122, mo_w123, mo_w124, mo_w125, mo_w126, mo_w127, mo_w128, mo_w129, mo_w130, mo_w131, mo_w132, mo_w133, mo_w134, mo_w135, mo_w136, mo_w137, mo_w138, mo_w139, mo_w140, mo_w141, mo_w142, mo_w143, h2]
    refine Eq.trans eu ?_
    simp (disch := first | assumption | (simp only [mo_shs]; assumption) | omega | (simp; done)) only [B_Mo_hold_47, ob_i_self, ob_i_n, ob_i_k, mo_shs, Option.bind_some, ob_b2_s, mo_this, mo_g, mo_p, mo_r0, mo_r1, mo_r2, mo_r7, mo_r8, mo_r9, mo_r10, mo_r11, mo_r12, mo_r13, mo_r14, mo_r15, mo_r16, mo_r17, mo_r18, mo_r19, mo_r20, mo_r21, mo_r22, mo_r23, mo_r24, mo_r25, mo_r26, mo_r27, mo_r28, mo_r29, mo_r30, mo_r31, mo_r33, mo_r34, mo_r35, mo_r36, mo_r40, mo_r41, mo_r42, mo_r43, mo_r44, mo_r47, mo_r55, mo_r56, mo_a104, mo_a105, mo_a106, mo_a107, mo_a108, mo_a109, mo_a110, mo_a111, mo_a112, mo_a113, mo_a114, mo_a115, mo_a116, mo_a117, mo_a118, mo_a119, mo_a120, mo_a121, mo_a122, mo_a123, mo_a124, mo_a125, mo_a126, mo_a127, mo_a128, mo_a129, mo_a130, mo_a131, mo_a132, mo_a133, mo_a134, mo_a135, mo_a136, mo_a137, mo_a138, mo_a139, mo_a140, mo_a141, mo_a142, mo_a143, mo_w104, mo_w105, mo_w106, mo_w107, mo_w108, mo_w109, mo_w110, mo_w111, mo_w112, mo_w113, mo_w114, mo_w115, mo_w116, mo_w117, mo_w118, mo_w119, mo_w120, mo_w121, mo_w122, mo_w123, mo_w124, mo_w125, mo_w126, mo_w127, mo_w128, mo_w129, mo_w130, mo_w131, mo_w132, mo_w133, mo_w134, mo_w135, mo_w136, mo_w137, mo_w138, mo_w139, mo_w140, mo_w141, mo_w142, mo_w143, e45]
    rw [if_pos (nI_le (Nat.le_refl _) (by omega))]
  · exact (f.2.2.2.2 _ _ (by omega)).trans (by simp [t1, mo_is])
  · exact (f.2.2.2.2 _ _ (by omega)).trans (by simp [t1, mo_is])
  · exact (f.2.2.2.2 _ _ (by omega)).trans (by simp [t1, mo_is]; rfl)
  · exact (f.2.2.2.2 _ _ (by omega)).trans (by simp [t1, mo_is]; rfl)
  · exact (f.2.2.2.2 _ _ (by omega)).trans (by simp [t1, mo_is]; rfl)
  · exact (f.2.2.2.2 _ _ (by omega)).trans (by simp [t1, mo_is])
/-- a row is laid out again, and sent -/
abbrev dWL : Nat → Nat → Prop := fun n j => dW n j ∨ dL n j
theorem mo_lay {α : Type} {t : ob_S} {G : Nat → Int32 → ob_S → Option α} {L : List Nat} (h : mo_sh t) (hl : L.length ≤ 48) (hb : ∀ x ∈ L, x < 256) (step : ∀ fu i u, i < L.length → mo_F (fun q j => q = 140 ∧ 0 ≤ j ∧ j < 0 + L.length) (ob_setI t 103 45 (nI L.length)) u → G (fu + 1) (nI i) u = G fu (nI (i + 1)) (ob_setI u 140 (0 + i) (nI (L.getD i 0)))) : ∃ g u last, G ob_fu 0 (ob_setI t 103 45 (nI L.length)) = G (g + 1) (nI L.length) u ∧ mo_Out u L last ∧ mo_F dW t u := by
  obtain ⟨g, u, eu, f, hv⟩ := mo_loop step ob_fu (by show L.length < 2000; omega)
  have fu : mo_F dW t u := (mo_F.o (by omega)).tr (f.mono (fun n j z => by omega))
  have e45 : ob_i u 103 45 = nI L.length := (f.2.2.2.2 _ _ (by omega)).trans (by simp [mo_is])
  obtain ⟨last, -, el⟩ := nb_seed (ob_i u 103 46)
  exact ⟨g, u, last, eu, ⟨h.f fu, e45, el, by omega, fun i hi => hv i hi, hb⟩, fu⟩
theorem y_sendAgain {t : ob_S} {LL : List (List Nat × Nat)} {q : ap_P} {p : Nat} (h : mo_sh t) (hL : mo_Li t LL) (hp : p < 4) (hq : mo_Pe t p (some q)) : ∃ u, X_Mo_sendAgain 103 (nI p) t = some u ∧ mo_Li u (af_send LL q.2.2.2.2 (if p < 2 then 1 else 0)) ∧ mo_F dWL t u := by
  obtain ⟨h1, h2, h3, h4, h5, h6, h7, h8, h9⟩ := hq
  have hl : q.2.2.2.2.length ≤ 48 := h8.2.2.2.2.2
  obtain ⟨g, u, last, eu, ou, f⟩ := mo_lay (G := fun fu i s => B_Mo_sendAgain_12 fu 103 (nI p) i s) h hl h9 (fun fu i u hi f => by
    have s1 : mo_sh u := mo_sh.f (t := ob_setI t 103 45 (nI q.2.2.2.2.length)) h f
    have e45 : ob_i u 103 45 = nI q.2.2.2.2.length := (f.2.2.2.2 _ _ (by omega)).trans (by simp [mo_is])
    have e112 : ob_i u 112 (64 * p + i) = nI (q.2.2.2.2.getD i 0) := (f.2.2.2.2 _ _ (by omega)).trans (by rw [mo_is, if_neg (by omega)]; exact h7 i hi)
    simp (disch := first | assumption | (simp only [mo_shs]; assumption) | omega | (simp; done)) only [B_Mo_sendAgain_12, ob_i_self, ob_i_n, ob_i_k, mo_shs, Option.bind_some, ob_b2_s, mo_this, mo_g, mo_p, mo_r0, mo_r1, mo_r2, mo_r7, mo_r8, mo_r9, mo_r10, mo_r11, mo_r12, mo_r13, mo_r14, mo_r15, mo_r16, mo_r17, mo_r18, mo_r19, mo_r20, mo_r21, mo_r22, mo_r23, mo_r24, mo_r25, mo_r26, mo_r27, mo_r28, mo_r29, mo_r30, mo_r31, mo_r33, mo_r34, mo_r35, mo_r36, mo_r40, mo_r41, mo_r42, mo_r43, mo_r44, mo_r47, mo_r55, mo_r56, mo_a104, mo_a105, mo_a106, mo_a107, mo_a108, mo_a109, mo_a110, mo_a111, mo_a112, mo_a113, mo_a114, mo_a115, mo_a116, mo_a117, mo_a118, mo_a119, mo_a120, mo_a121, mo_a122, mo_a123, mo_a124, mo_a125, mo_a126, mo_a127, mo_a128, mo_a129, mo_a130, mo_a131, mo_a132, mo_a133, mo_a134, mo_a135, mo_a136, mo_a137, mo_a138, mo_a139, mo_a140, mo_a141, mo_a142, mo_a143, mo_w104, mo_w105, mo_w106, mo_w107, mo_w108, mo_w109, mo_w110, mo_w111, mo_w112, mo_w113, mo_w114, mo_w115, mo_w116, mo_w117, mo_w118, mo_w119, mo_w120, mo_w121, mo_w122, mo_w123, mo_w124, mo_w125, mo_w126, mo_w127, mo_w128, mo_w129, mo_w130, mo_w131, mo_w132, mo_w133, mo_w134, mo_w135, mo_w136, mo_w137, mo_w138, mo_w139, mo_w140, mo_w141, mo_w142, mo_w143, e45, e112, mo_x64, nI_1]
    rw [if_neg (nI_ge hi (by omega)), Nat.zero_add])
  have s1 := ou.1
  have e45 := ou.2.1
  obtain ⟨w, ew, lw, fw⟩ := y_send (if p < 2 then 1 else 0) (hL.f f (fun n j a b => by omega)) ou rfl (by split <;> omega) hl
  refine ⟨w, ?_, lw, f.then fw (fun n j z => Or.inl z) (fun n j z => Or.inr z)⟩
  simp (disch := first | assumption | (simp only [mo_shs]; assumption) | omega | (simp; done)) only [X_Mo_sendAgain, ob_i_self, ob_i_n, ob_i_k, mo_shs, Option.bind_some, ob_b2_s, mo_this, mo_g, mo_p, mo_r0, mo_r1, mo_r2, mo_r7, mo_r8, mo_r9, mo_r10, mo_r11, mo_r12, mo_r13, mo_r14, mo_r15, mo_r16, mo_r17, mo_r18, mo_r19, mo_r20, mo_r21, mo_r22, mo_r23, mo_r24, mo_r25, mo_r26, mo_r27, mo_r28, mo_r29, mo_r30, mo_r31, mo_r33, mo_r34, mo_r35, mo_r36, mo_r40, mo_r41, mo_r42, mo_r43, mo_r44, mo_r47, mo_r55, mo_r56, mo_a104, mo_a105, mo_a106, mo_a107, mo_a108, mo_a109, mo_a110, mo_a111, mo_a112, mo_a113, mo_a114, mo_a115, mo_a116, mo_a117, mo_a118, mo_a119, mo_a120, mo_a121, mo_a122, mo_a123, mo_a124, mo_a125, mo_a126, mo_a127, mo_a128, mo_a129, mo_a130, mo_a131, mo_a132, mo_a133, mo_a134, mo_a135, mo_a136, mo_a137, mo_a138, mo_a139, mo_a140, mo_a141, mo_a142, mo_a143, mo_w104, mo_w105, mo_w106, mo_w107, mo_w108, mo_w109, mo_w110, mo_w111, mo_w112, mo_w113, mo_w114, mo_w115, mo_w116, mo_w117, mo_w118, mo_w119, mo_w120, mo_w121, mo_w122, mo_w123, mo_w124, mo_w125, mo_w126, mo_w127, mo_w128, mo_w129, mo_w130, mo_w131, mo_w132, mo_w133, mo_w134, mo_w135, mo_w136, mo_w137, mo_w138, mo_w139, mo_w140, mo_w141, mo_w142, mo_w143, h6]
  refine Eq.trans eu ?_
  simp (disch := first | assumption | (simp only [mo_shs]; assumption) | omega | (simp; done)) only [B_Mo_sendAgain_12, ob_i_self, ob_i_n, ob_i_k, mo_shs, Option.bind_some, ob_b2_s, mo_this, mo_g, mo_p, mo_r0, mo_r1, mo_r2, mo_r7, mo_r8, mo_r9, mo_r10, mo_r11, mo_r12, mo_r13, mo_r14, mo_r15, mo_r16, mo_r17, mo_r18, mo_r19, mo_r20, mo_r21, mo_r22, mo_r23, mo_r24, mo_r25, mo_r26, mo_r27, mo_r28, mo_r29, mo_r30, mo_r31, mo_r33, mo_r34, mo_r35, mo_r36, mo_r40, mo_r41, mo_r42, mo_r43, mo_r44, mo_r47, mo_r55, mo_r56, mo_a104, mo_a105, mo_a106, mo_a107, mo_a108, mo_a109, mo_a110, mo_a111, mo_a112, mo_a113, mo_a114, mo_a115, mo_a116, mo_a117, mo_a118, mo_a119, mo_a120, mo_a121, mo_a122, mo_a123, mo_a124, mo_a125, mo_a126, mo_a127, mo_a128, mo_a129, mo_a130, mo_a131, mo_a132, mo_a133, mo_a134, mo_a135, mo_a136, mo_a137, mo_a138, mo_a139, mo_a140, mo_a141, mo_a142, mo_a143, mo_w104, mo_w105, mo_w106, mo_w107, mo_w108, mo_w109, mo_w110, mo_w111, mo_w112, mo_w113, mo_w114, mo_w115, mo_w116, mo_w117, mo_w118, mo_w119, mo_w120, mo_w121, mo_w122, mo_w123, mo_w124, mo_w125, mo_w126, mo_w127, mo_w128, mo_w129, mo_w130, mo_w131, mo_w132, mo_w133, mo_w134, mo_w135, mo_w136, mo_w137, mo_w138, mo_w139, mo_w140, mo_w141, mo_w142, mo_w143, e45, B_Mo_sendAgain_54]
  rw [if_pos (nI_le (Nat.le_refl _) (by omega))]
  by_cases c : p < 2
  · rw [if_pos c] at ew
    rw [if_neg (show ¬ (2 : Int32) ≤ nI p from nI_ge (b := 2) c (by omega)), show (1 : Int32) = nI 1 from rfl, ew]
    rfl
  · rw [if_neg c] at ew
    rw [if_pos (show (2 : Int32) ≤ nI p from nI_le (a := 2) (by omega) (by omega)), show (0 : Int32) = nI 0 from rfl, ew]
    rfl
theorem y_bare {t : ob_S} {LL : List (List Nat × Nat)} (ty id e : Nat) (h : mo_sh t) (hL : mo_Li t LL) (hty : ty < 4) (hid : id < 65536) (he : e < 2) : ∃ u, X_Mo_bare 103 (nI ty) (nI id) (nI e) t = some u ∧ mo_Li u (af_send LL (aw_empty ty id) e) ∧ mo_F dWL t u := by
  obtain ⟨u, eu, ou, f⟩ := y_begin ty 0 id h hty (by omega) hid
  obtain ⟨w, ew, lw, fw⟩ := y_send e (hL.f f (fun n j a b => by omega)) ou rfl he (by simp)
  refine ⟨w, ?_, lw, f.then fw (fun n j z => Or.inl z) (fun n j z => Or.inr z)⟩
  simp (disch := first | assumption | (simp only [mo_shs]; assumption) | omega | (simp; done)) only [X_Mo_bare, ob_i_self, ob_i_n, ob_i_k, mo_shs, Option.bind_some, ob_b2_s, mo_this, mo_g, mo_p, mo_r0, mo_r1, mo_r2, mo_r7, mo_r8, mo_r9, mo_r10, mo_r11, mo_r12, mo_r13, mo_r14, mo_r15, mo_r16, mo_r17, mo_r18, mo_r19, mo_r20, mo_r21, mo_r22, mo_r23, mo_r24, mo_r25, mo_r26, mo_r27, mo_r28, mo_r29, mo_r30, mo_r31, mo_r33, mo_r34, mo_r35, mo_r36, mo_r40, mo_r41, mo_r42, mo_r43, mo_r44, mo_r47, mo_r55, mo_r56, mo_a104, mo_a105, mo_a106, mo_a107, mo_a108, mo_a109, mo_a110, mo_a111, mo_a112, mo_a113, mo_a114, mo_a115, mo_a116, mo_a117, mo_a118, mo_a119, mo_a120, mo_a121, mo_a122, mo_a123, mo_a124, mo_a125, mo_a126, mo_a127, mo_a128, mo_a129, mo_a130, mo_a131, mo_a132, mo_a133, mo_a134, mo_a135, mo_a136, mo_a137, mo_a138, mo_a139, mo_a140, mo_a141, mo_a142, mo_a143, mo_w104, mo_w105, mo_w106, mo_w107, mo_w108, mo_w109, mo_w110, mo_w111, mo_w112, mo_w113, mo_w114, mo_w115, mo_w116, mo_w117, mo_w118, mo_w119, mo_w120, mo_w121, mo_w122, mo_w123, mo_w124, mo_w125, mo_w126, mo_w127, mo_w128, mo_w129, mo_w130, mo_w131, mo_w132, mo_w133, mo_w134, mo_w135, mo_w136, mo_w137, mo_w138, mo_w139, mo_w140, mo_w141, mo_w142, mo_w143]
  rw [show (0 : Int32) = nI 0 from rfl, eu]
  simp only [Option.bind_some]
  rw [ew]
  rfl

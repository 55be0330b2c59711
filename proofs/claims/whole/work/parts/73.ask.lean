/-! LAYER 2, 33: the reference asks -/
abbrev dK (s : Nat) : Nat → Nat → Prop := fun n j => dW n j ∨ dL n j ∨ dP s n j ∨ (n = 103 ∧ j = 5) ∨ ((n = 114 ∨ n = 125) ∧ j = s)
theorem sl_ok_st {F : Nat → Nat} {B : List Nat} {x : Nat} (ok : sl_ok F B) (hx : x < 5) : sl_ok (va_up F 2 x) B := by
  obtain ⟨o1, o2, o3, o4, o5, o6, o7, o8, o9, o10, o11, o12, o13, o14⟩ := ok
  exact ⟨by simpa [va_up] using hx, by simpa [va_up] using o2, by simpa [va_up] using o3, by simpa [va_up] using o4, by simpa [va_up] using o5, by simpa [va_up] using o6, by simpa [va_up] using o7, by simpa [va_up] using o8, by simpa [va_up] using o9, by simpa [va_up] using o10, by simpa [va_up] using o11, by simpa [va_up] using o12, o13, o14⟩
theorem y_ask251 {a : Int32} {t : ob_S} {s : Nat} {F : Nat → Nat} {B L : List Nat} {last cn m : Nat} {LL : List (List Nat × Nat)} (h : mo_Sr t s F B a) (o : mo_Out t L last) (hL : mo_Li t LL) (hc : ob_i t 103 5 = nI cn) (hcn : cn < 65536) (hs : s < 2) (hl : L.length ≤ 48) (ok : sl_ok F B) (so : so_a s F) (hm : m < 2) (hmm : F 7 ≠ 0 → m = af_more B.length (F 6) (F 5)) : ∃ u, B_Mo_ask_251 103 (nI s) (nI m) (nI s) 125 t = some u ∧ mo_Sl u s (va_up F 2 1) B ∧ mo_Pe u s (some (cn, 4, 4, 0, L)) ∧ ob_i u 103 5 = nI ((cn + 1) % 65536) ∧ mo_Li u (af_send LL L 1) ∧ mo_F (dK s) t u := by
  let t1 := ob_setI (ob_setI t 125 s (nI m)) 114 s 1
  have f1 : mo_F (fun n j => (n = 114 ∨ n = 125) ∧ j = s) t t1 := (mo_F.o (by omega)).s (by omega)
  have s0 := o.1
  have sl1 : mo_Sl t1 s (va_up F 2 1) B := by
    have eu : up11 (va_up F 2 1) = va_up F 2 1 := by
      rw [up11, if_neg (by rw [va_up_self]; omega)]
    have h0 : mo_Sr (ob_setI t 125 s (nI m)) s F B (nI m) := by
      obtain ⟨h1, h2, h3, h4, h5, h6, h7, h8, h9, h10, h11', h12, h13, h14, h15⟩ := h
      exact ⟨by rw [ob_i_n (by omega)]; exact h1, by rw [ob_i_n (by omega)]; exact h2, by rw [ob_i_n (by omega)]; exact h3, by rw [ob_i_n (by omega)]; exact h4, by rw [ob_i_n (by omega)]; exact h5, by rw [ob_i_n (by omega)]; exact h6, by rw [ob_i_n (by omega)]; exact h7, by rw [ob_i_n (by omega)]; exact h8, by rw [ob_i_n (by omega)]; exact h9, by rw [ob_i_n (by omega)]; exact h10, by rw [ob_i_n (by omega)]; exact h11', ob_i_self, by rw [ob_i_n (by omega)]; exact h13, fun i hi => by rw [ob_i_n (by omega)]; exact h14 i hi, h15⟩
    refine ⟨nI m, ?_, ?_, sl_ok_st ok (by omega), ?_⟩
    · rw [eu]
      exact h0.set 2 114 1 (by simp)
    · intro _ h7'
      rw [hmm (by simpa [va_up] using h7')]
      simp [va_up]
    · exact ⟨by simpa [va_up] using so.1, fun _ => by simpa [va_up] using so.2.1, by simpa [va_up] using so.2.2.1, by simpa [va_up] using so.2.2.2⟩
  obtain ⟨u, eu, pu, fu⟩ := y_hold (p := s) cn (o.f f1 (fun n j a b => by omega)) (by omega) hcn hl
  have s2 : mo_sh u := o.1.f (f1.then fu (G := dK s) (fun n j z => by omega) (fun n j z => by omega))
  have e5 : ob_i u 103 5 = nI cn := (fu.2.2.2.2 _ _ (by omega)).trans ((f1.2.2.2.2 _ _ (by omega)).trans hc)
  let w := ob_setI u 103 5 (nI ((cn + 1) % 65536))
  have f2 : mo_F (fun n j => n = 103 ∧ j = 5) u w := mo_F.o (by omega)
  have ow : mo_Out w L last := ((o.f f1 (fun n j a b => by omega)).f fu (fun n j a b => by omega)).f f2 (fun n j a b => by omega)
  have lw : mo_Li w LL := ((hL.f f1 (fun n j a b => by omega)).f fu (fun n j a b => by omega)).f f2 (fun n j a b => by omega)
  obtain ⟨v, ev, lv, fv⟩ := y_send 1 lw ow rfl (by omega) hl
  refine ⟨v, ?_, ((sl1.f fu (fun n j a b => by omega)).f f2 (fun n j a b => by omega)).f fv (fun n j a b => by omega), (pu.f f2 (fun n j a b => by omega)).f fv (fun n j a b => by omega), (fv.2.2.2.2 _ _ (by omega)).trans (by simp [w, mo_is]), lv, ((f1.mono (fun n j z => by omega)).tr (fu.mono (fun n j z => by omega))).tr ((f2.mono (fun n j z => by omega)).tr (fv.mono (fun n j z => by omega)))⟩
  have e251 : ob_i (ob_setI (ob_setI t 125 s (nI m)) 114 s 1) 103 5 = nI cn := (f1.2.2.2.2 _ _ (by omega)).trans hc
  have m01 : nI m = 0 ∨ nI m = 1 := by
    rcases (show m = 0 ∨ m = 1 by omega) with rfl | rfl
    · exact Or.inl rfl
    · exact Or.inr rfl
  simp (disch := first | assumption | (simp only [mo_shs]; assumption) | omega | (simp; done)) only [B_Mo_ask_251, ob_i_self, ob_i_n, ob_i_k, mo_shs, Option.bind_some, ob_b2_s, mo_this, mo_g, mo_p, mo_r0, mo_r1, mo_r2, mo_r7, mo_r8, mo_r9, mo_r10, mo_r11, mo_r12, mo_r13, mo_r14, mo_r15, mo_r16, mo_r17, mo_r18, mo_r19, mo_r20, mo_r21, mo_r22, mo_r23, mo_r24, mo_r25, mo_r26, mo_r27, mo_r28, mo_r29, mo_r30, mo_r31, mo_r33, mo_r34, mo_r35, mo_r36, mo_r40, mo_r41, mo_r42, mo_r43, mo_r44, mo_r47, mo_r55, mo_r56, mo_a104, mo_a105, mo_a106, mo_a107, mo_a108, mo_a109, mo_a110, mo_a111, mo_a112, mo_a113, mo_a114, mo_a115, mo_a116, mo_a117, mo_a118, mo_a119, mo_a120, mo_a121, mo_a122, mo_a123, mo_a124, mo_a125, mo_a126, mo_a127, mo_a128, mo_a129, mo_a130, mo_a131, mo_a132, mo_a133, mo_a134, mo_a135, mo_a136, mo_a137, mo_a138, mo_a139, mo_a140, mo_a141, mo_a142, mo_a143, mo_w104, mo_w105, mo_w106, mo_w107, mo_w108, mo_w109, mo_w110, mo_w111, mo_w112, mo_w113, mo_w114, mo_w115, mo_w116, mo_w117, mo_w118, mo_w119, mo_w120, mo_w121, mo_w122, mo_w123, mo_w124, mo_w125, mo_w126, mo_w127, mo_w128, mo_w129, mo_w130, mo_w131, mo_w132, mo_w133, mo_w134, mo_w135, mo_w136, mo_w137, mo_w138, mo_w139, mo_w140, mo_w141, mo_w142, mo_w143, hc]
  rw [show X_Mo_hold 103 (nI s) (nI cn) (ob_setI (ob_setI t 125 s (nI m)) 114 s 1) = some u from eu]
  simp (disch := first | assumption | (simp only [mo_shs]; assumption) | omega | (simp; done)) only [ob_i_self, ob_i_n, ob_i_k, mo_shs, Option.bind_some, ob_b2_s, mo_this, mo_g, mo_p, mo_r0, mo_r1, mo_r2, mo_r7, mo_r8, mo_r9, mo_r10, mo_r11, mo_r12, mo_r13, mo_r14, mo_r15, mo_r16, mo_r17, mo_r18, mo_r19, mo_r20, mo_r21, mo_r22, mo_r23, mo_r24, mo_r25, mo_r26, mo_r27, mo_r28, mo_r29, mo_r30, mo_r31, mo_r33, mo_r34, mo_r35, mo_r36, mo_r40, mo_r41, mo_r42, mo_r43, mo_r44, mo_r47, mo_r55, mo_r56, mo_a104, mo_a105, mo_a106, mo_a107, mo_a108, mo_a109, mo_a110, mo_a111, mo_a112, mo_a113, mo_a114, mo_a115, mo_a116, mo_a117, mo_a118, mo_a119, mo_a120, mo_a121, mo_a122, mo_a123, mo_a124, mo_a125, mo_a126, mo_a127, mo_a128, mo_a129, mo_a130, mo_a131, mo_a132, mo_a133, mo_a134, mo_a135, mo_a136, mo_a137, mo_a138, mo_a139, mo_a140, mo_a141, mo_a142, mo_a143, mo_w104, mo_w105, mo_w106, mo_w107, mo_w108, mo_w109, mo_w110, mo_w111, mo_w112, mo_w113, mo_w114, mo_w115, mo_w116, mo_w117, mo_w118, mo_w119, mo_w120, mo_w121, mo_w122, mo_w123, mo_w124, mo_w125, mo_w126, mo_w127, mo_w128, mo_w129, mo_w130, mo_w131, mo_w132, mo_w133, mo_w134, mo_w135, mo_w136, mo_w137, mo_w138, mo_w139, mo_w140, mo_w141, mo_w142, mo_w143, e5, nI_1]
  rw [show (65536 : Int32) = nI 65536 from rfl, pk_rem (by omega) (by omega) (by omega)]
  rw [show X_Mo_send 103 1 (ob_setI u 103 5 (nI ((cn + 1) % 65536))) = some v from ev]
  rfl
theorem aw_pay_e {K : List Nat} {st ct : Nat} (hc : 0 < ct) : ((K.drop st).take ct).length = min (K.length - st) ct ∧ aw_pay K st ct = if ((K.drop st).take ct).length = 0 then [] else 255 :: (K.drop st).take ct := by
  have e : ((K.drop st).take ct).length = min (K.length - st) ct := by
    rw [List.length_take, List.length_drop, Nat.min_comm]
  refine ⟨e, ?_⟩
  rw [aw_pay, e]
  by_cases c : st < K.length
  · rw [if_pos ⟨by omega, c⟩, if_neg (by omega)]
  · rw [if_neg (fun z => c z.2), if_pos (by omega)]
/-- the payload of a request, and what follows -/
theorem y_ask172 {a : Int32} {t : ob_S} {s : Nat} {F : Nat → Nat} {B L P : List Nat} {last cn m : Nat} {LL : List (List Nat × Nat)} (h : mo_Sr t s F B a) (o : mo_Out t L last) (hL : mo_Li t LL) (hc : ob_i t 103 5 = nI cn) (hcn : cn < 65536) (hs : s < 2) (hl : L.length ≤ 14) (ok : sl_ok F B) (so : so_a s F) (hm : m < 2) (hmm : F 7 ≠ 0 → m = af_more B.length (F 6) (F 5)) (hP : P = if F 7 = 0 then [] else (B.drop (F 6 * af_size (F 5))).take (af_size (F 5))) : ∃ u, B_Mo_ask_172 103 (nI s) (nI m) (nI P.length) t = some u ∧ mo_Sl u s (va_up F 2 1) B ∧ mo_Pe u s (some (cn, 4, 4, 0, L ++ (if P.length = 0 then [] else 255 :: P))) ∧ ob_i u 103 5 = nI ((cn + 1) % 65536) ∧ mo_Li u (af_send LL (L ++ (if P.length = 0 then [] else 255 :: P)) 1) ∧ mo_F (dK s) t u := by
  have hz := af_size_ok (F 5)
  have hF5 : F 5 < 2 := ok.2.2.2.1
  have hF6 : F 6 ≤ 5 := ok.2.2.2.2.1
  have hB80 : B.length ≤ 80 := ok.2.2.2.2.2.2.2.2.2.2.2.2.1
  have hBb : ∀ x ∈ B, x < 256 := ok.2.2.2.2.2.2.2.2.2.2.2.2.2
  have hPl : P.length ≤ 32 := by
    rw [hP]
    split
    · simp
    · rw [List.length_take]; omega
  have hPb : ∀ x ∈ P, x < 256 := by
    intro x hx
    rw [hP] at hx
    split at hx
    · simp at hx
    · exact hBb x (List.mem_of_mem_drop (List.mem_of_mem_take hx))
  have hPg : ∀ i, i < P.length → F 6 * af_size (F 5) + i < B.length ∧ P.getD i 0 = B.getD (F 6 * af_size (F 5) + i) 0 := by
    intro i hi
    rw [hP] at hi ⊢
    split at hi
    · simp at hi
    · rename_i c7
      rw [if_neg c7]
      rw [List.length_take, List.length_drop] at hi
      refine ⟨by omega, ?_⟩
      rw [List.getD_eq_getElem?_getD, List.getD_eq_getElem?_getD, List.getElem?_take_of_lt (by omega), List.getElem?_drop]
  have key : ∀ (t' : ob_S) (L' : List Nat), mo_F dW t t' → mo_Out t' L' last → L'.length ≤ 15 → ∃ u, B_Mo_ask_186 103 (nI s) (nI m) (nI P.length) t' = some u ∧ mo_Sl u s (va_up F 2 1) B ∧ mo_Pe u s (some (cn, 4, 4, 0, L' ++ P)) ∧ ob_i u 103 5 = nI ((cn + 1) % 65536) ∧ mo_Li u (af_send LL (L' ++ P) 1) ∧ mo_F (dK s) t u := by
    intro t' L' ft ot hl'
    obtain ⟨g, u, eu, ou, fu⟩ := mo_wloop (G := fun fu i x => B_Mo_ask_189 fu 103 (nI s) (nI m) (nI P.length) i x) (P := P) ot (by omega) hPb (fun fu i u u' hi f ew => by
      have s1 : mo_sh u := ot.1.f f
      have sl := (h.f ft (fun n j a b => by omega)).f f (fun n j a b => by omega)
      have e119 := sl.2.2.2.2.2.1
      have e118 := sl.2.2.2.2.1
      have e126 := sl.2.2.2.2.2.2.2.2.2.2.2.2.2.1 (F 6 * af_size (F 5) + i) (hPg i hi).1
      rw [← (hPg i hi).2] at e126
      have hb := (hPg i hi).1
      simp (disch := first | assumption | (simp only [mo_shs]; assumption) | omega | (simp; done)) only [B_Mo_ask_189, ob_i_self, ob_i_n, ob_i_k, mo_shs, Option.bind_some, ob_b2_s, mo_this, mo_g, mo_p, mo_r0, mo_r1, mo_r2, mo_r7, mo_r8, mo_r9, mo_r10, mo_r11, mo_r12, mo_r13, mo_r14, mo_r15, mo_r16, mo_r17, mo_r18, mo_r19, mo_r20, mo_r21, mo_r22, mo_r23, mo_r24, mo_r25, mo_r26, mo_r27, mo_r28, mo_r29, mo_r30, mo_r31, mo_r33, mo_r34, mo_r35, mo_r36, mo_r40, mo_r41, mo_r42, mo_r43, mo_r44, mo_r47, mo_r55, mo_r56, mo_a104, mo_a105, mo_a106, mo_a107, mo_a108, mo_a109, mo_a110, mo_a111, mo_a112, mo_a113, mo_a114, mo_a115, mo_a116, mo_a117, mo_a118, mo_a119, mo_a120, mo_a121, mo_a122, mo_a123, mo_a124, mo_a125, mo_a126, mo_a127, mo_a128, mo_a129, mo_a130, mo_a131, mo_a132, mo_a133, mo_a134, mo_a135, mo_a136, mo_a137, mo_a138, mo_a139, mo_a140, mo_a141, mo_a142, mo_a143, mo_w104, mo_w105, mo_w106, mo_w107, mo_w108, mo_w109, mo_w110, mo_w111, mo_w112, mo_w113, mo_w114, mo_w115, mo_w116, mo_w117, mo_w118, mo_w119, mo_w120, mo_w121, mo_w122, mo_w123, mo_w124, mo_w125, mo_w126, mo_w127, mo_w128, mo_w129, mo_w130, mo_w131, mo_w132, mo_w133, mo_w134, mo_w135, mo_w136, mo_w137, mo_w138, mo_w139, mo_w140, mo_w141, mo_w142, mo_w143, e119, e118, y_size, pk_mul, mo_x80, nI_add, Nat.add_assoc]
      rw [if_neg (nI_ge hi (by omega)), e126, ew, Option.bind_some, nI_1]) ob_fu (by show P.length < 2000; omega)
    have s1 := ou.1
    have f2 : mo_F dW t u := ft.tr fu
    obtain ⟨w, ew, q1, q2, q3, q4, q5⟩ := y_ask251 (h.f f2 (fun n j a b => by omega)) ou (hL.f f2 (fun n j a b => by omega)) ((f2.2.2.2.2 _ _ (by omega)).trans hc) hcn hs (by simp; omega) ok so hm hmm
    refine ⟨w, ?_, q1, q2, q3, q4, (f2.mono (fun n j z => Or.inl z)).tr q5⟩
    rw [B_Mo_ask_186]
    refine Eq.trans eu ?_
    simp (disch := first | assumption | (simp only [mo_shs]; assumption) | omega | (simp; done)) only [B_Mo_ask_189, ob_i_self, ob_i_n, ob_i_k, mo_shs, Option.bind_some, ob_b2_s, mo_this, mo_g, mo_p, mo_r0, mo_r1, mo_r2, mo_r7, mo_r8, mo_r9, mo_r10, mo_r11, mo_r12, mo_r13, mo_r14, mo_r15, mo_r16, mo_r17, mo_r18, mo_r19, mo_r20, mo_r21, mo_r22, mo_r23, mo_r24, mo_r25, mo_r26, mo_r27, mo_r28, mo_r29, mo_r30, mo_r31, mo_r33, mo_r34, mo_r35, mo_r36, mo_r40, mo_r41, mo_r42, mo_r43, mo_r44, mo_r47, mo_r55, mo_r56, mo_a104, mo_a105, mo_a106, mo_a107, mo_a108, mo_a109, mo_a110, mo_a111, mo_a112, mo_a113, mo_a114, mo_a115, mo_a116, mo_a117, mo_a118, mo_a119, mo_a120, mo_a121, mo_a122, mo_a123, mo_a124, mo_a125, mo_a126, mo_a127, mo_a128, mo_a129, mo_a130, mo_a131, mo_a132, mo_a133, mo_a134, mo_a135, mo_a136, mo_a137, mo_a138, mo_a139, mo_a140, mo_a141, mo_a142, mo_a143, mo_w104, mo_w105, mo_w106, mo_w107, mo_w108, mo_w109, mo_w110, mo_w111, mo_w112, mo_w113, mo_w114, mo_w115, mo_w116, mo_w117, mo_w118, mo_w119, mo_w120, mo_w121, mo_w122, mo_w123, mo_w124, mo_w125, mo_w126, mo_w127, mo_w128, mo_w129, mo_w130, mo_w131, mo_w132, mo_w133, mo_w134, mo_w135, mo_w136, mo_w137, mo_w138, mo_w139, mo_w140, mo_w141, mo_w142, mo_w143]
    rw [if_pos (nI_le (Nat.le_refl _) (by omega))]
    rcases (show m = 0 ∨ m = 1 by omega) with rfl | rfl
    · rw [if_pos (show ¬ nI 0 = (1 : Int32) by decide)]
      exact ew
    · rw [if_neg (show ¬ ¬ nI 1 = (1 : Int32) by decide)]
      exact ew
  rw [B_Mo_ask_172]
  by_cases c : P.length = 0
  · rw [if_pos (show nI P.length ≤ 0 from nI_le (b := 0) (by omega) (by omega)), if_pos c]
    obtain ⟨u, q0, q1, q2, q3, q4, q5⟩ := key t L mo_F.rf o (by omega)
    rw [List.eq_nil_of_length_eq_zero c] at q0 q2 q4 ⊢
    exact ⟨u, q0, q1, q2, q3, q4, q5⟩
  · rw [if_neg (nI_nle (by omega) (by omega)), if_neg c]
    obtain ⟨t', e', o', f'⟩ := y_write (v := 255) 255 o rfl (by omega) (by omega)
    rw [ob_b_e e']
    obtain ⟨u, q0, q1, q2, q3, q4, q5⟩ := key t' (L ++ [255]) f' o' (by simp; omega)
    rw [List.append_assoc] at q2 q4
    exact ⟨u, q0, q1, q2, q3, q4, q5⟩

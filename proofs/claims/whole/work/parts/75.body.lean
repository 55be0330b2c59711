/-! LAYER 2, 35: the reference's client: what it holds of a message; bodies -/
abbrev dX : Nat → Nat → Prop := fun n j => (141 ≤ n ∧ n ≤ 143) ∨ (n = 103 ∧ 48 ≤ j ∧ j ≤ 60)
/-- the payload -/
def mo_Pl (t : ob_S) (P : List Nat) : Prop := ob_i t 103 60 = nI P.length ∧ (P.length = 0 ∨ ∃ a, ob_i t 103 59 = nI a ∧ a + P.length ≤ 64 ∧ mo_rw t 141 a P) ∧ P.length ≤ 32 ∧ ∀ x ∈ P, x < 256
theorem mo_Pl.f {D : Nat → Nat → Prop} {t u : ob_S} {P : List Nat} (h : mo_Pl t P) (f : mo_F D t u) (hD : ∀ n j, dX n j → ¬ D n j) : mo_Pl u P := by
  obtain ⟨h1, h2, h3⟩ := h
  refine ⟨(f.2.2.2.2 _ _ (hD _ _ (by omega))).trans h1, ?_, h3⟩
  rcases h2 with e | ⟨a, e1, e2, e3⟩
  · exact Or.inl e
  · exact Or.inr ⟨a, (f.2.2.2.2 _ _ (hD _ _ (by omega))).trans e1, e2, e3.f f (fun j _ _ => hD _ _ (by omega))⟩
/-- the segments -/
def mo_Sg (t : ob_S) (S : List (List Nat)) : Prop := ob_i t 103 54 = nI S.length ∧ S.length ≤ 2 ∧ ∀ k V, S[k]? = some V → ∃ a, ob_i t 142 k = nI a ∧ ob_i t 143 k = nI V.length ∧ a < 64 ∧ a + V.length ≤ 64 ∧ mo_rw t 141 a V
theorem mo_Sg.f {D : Nat → Nat → Prop} {t u : ob_S} {S : List (List Nat)} (h : mo_Sg t S) (f : mo_F D t u) (hD : ∀ n j, dX n j → ¬ D n j) : mo_Sg u S := by
  obtain ⟨h1, h2, h3⟩ := h
  refine ⟨(f.2.2.2.2 _ _ (hD _ _ (by omega))).trans h1, h2, fun k V e => ?_⟩
  obtain ⟨a, e1, e2, e3, e4, e5⟩ := h3 k V e
  exact ⟨a, (f.2.2.2.2 _ _ (hD _ _ (by omega))).trans e1, (f.2.2.2.2 _ _ (hD _ _ (by omega))).trans e2, e3, e4, e5.f f (fun j _ _ => hD _ _ (by omega))⟩
/-- the reference holds this message -/
def mo_Mm (t : ob_S) (ty code id : Nat) (tok w b2 b1 : Option Nat) (S : List (List Nat)) (P : List Nat) : Prop := ob_i t 103 49 = nI ty ∧ ob_i t 103 50 = nI code ∧ ob_i t 103 51 = nI id ∧ ob_i t 103 52 = oI tok ∧ ob_i t 103 53 = oI w ∧ ob_i t 103 57 = oI b2 ∧ ob_i t 103 58 = oI b1 ∧ mo_Pl t P ∧ mo_Sg t S ∧ ms_ok ty code id tok w b2 b1 P ∧ sg_ok S
theorem mo_Mm.f {D : Nat → Nat → Prop} {t u : ob_S} {ty code id : Nat} {tok w b2 b1 : Option Nat} {S : List (List Nat)} {P : List Nat} (h : mo_Mm t ty code id tok w b2 b1 S P) (f : mo_F D t u) (hD : ∀ n j, dX n j → ¬ D n j) : mo_Mm u ty code id tok w b2 b1 S P := by
  obtain ⟨h1, h2, h3, h4, h5, h6, h7, h8, h9, h10⟩ := h
  exact ⟨(f.2.2.2.2 _ _ (hD _ _ (by omega))).trans h1, (f.2.2.2.2 _ _ (hD _ _ (by omega))).trans h2, (f.2.2.2.2 _ _ (hD _ _ (by omega))).trans h3, (f.2.2.2.2 _ _ (hD _ _ (by omega))).trans h4, (f.2.2.2.2 _ _ (hD _ _ (by omega))).trans h5, (f.2.2.2.2 _ _ (hD _ _ (by omega))).trans h6, (f.2.2.2.2 _ _ (hD _ _ (by omega))).trans h7, h8.f f hD, h9.f f hD, h10⟩
/-- append -/
theorem y_append {t : ob_S} {s : Nat} {F : Nat → Nat} {B P : List Nat} {a : Int32} (hS : mo_sh t) (h : mo_Sr t s F B a) (hp : mo_Pl t P) (hs : s < 2) (hl : B.length + P.length ≤ 80) : ∃ u, X_Mo_append 103 (nI s) t = some u ∧ mo_Sr u s F (B ++ P) a ∧ mo_F (fun n j => (n = 127 ∧ j = s) ∨ (n = 126 ∧ 80 * s ≤ j ∧ j < 80 * s + 80)) t u := by
  have key : ∀ d i fu u, i + d = P.length → d < fu → mo_F (fun n j => (n = 127 ∧ j = s) ∨ (n = 126 ∧ 80 * s ≤ j ∧ j < 80 * s + 80)) t u → mo_Sr u s F (B ++ P.take i) a → ∃ w, B_Mo_append_2 fu 103 (nI s) (nI i) u = some w ∧ mo_Sr w s F (B ++ P) a ∧ mo_F (fun n j => (n = 127 ∧ j = s) ∨ (n = 126 ∧ 80 * s ≤ j ∧ j < 80 * s + 80)) t w := by
    intro d
    induction d with
    | zero =>
      intro i fu u hi hf f hr
      obtain ⟨fu, rfl⟩ : ∃ g, fu = g + 1 := ⟨fu - 1, by omega⟩
      have e : i = P.length := by omega
      subst e
      rw [List.take_length] at hr
      have s1 := hS.f f
      have pl := hp.f f (fun n j a b => by omega)
      refine ⟨u, ?_, hr, f⟩
      simp (disch := first | assumption | (simp only [mo_shs]; assumption) | omega | (simp; done)) only [B_Mo_append_2, ob_i_self, ob_i_n, ob_i_k, mo_shs, Option.bind_some, ob_b2_s, mo_this, mo_g, mo_p, mo_r0, mo_r1, mo_r2, mo_r7, mo_r8, mo_r9, mo_r10, mo_r11, mo_r12, mo_r13, mo_r14, mo_r15, mo_r16, mo_r17, mo_r18, mo_r19, mo_r20, mo_r21, mo_r22, mo_r23, mo_r24, mo_r25, mo_r26, mo_r27, mo_r28, mo_r29, mo_r30, mo_r31, mo_r33, mo_r34, mo_r35, mo_r36, mo_r40, mo_r41, mo_r42, mo_r43, mo_r44, mo_r47, mo_r55, mo_r56, mo_a104, mo_a105, mo_a106, mo_a107, mo_a108, mo_a109, mo_a110, mo_a111, mo_a112, mo_a113, mo_a114, mo_a115, mo_a116, mo_a117, mo_a118, mo_a119, mo_a120, mo_a121, mo_a122, mo_a123, mo_a124, mo_a125, mo_a126, mo_a127, mo_a128, mo_a129, mo_a130, mo_a131, mo_a132, mo_a133, mo_a134, mo_a135, mo_a136, mo_a137, mo_a138, mo_a139, mo_a140, mo_a141, mo_a142, mo_a143, mo_w104, mo_w105, mo_w106, mo_w107, mo_w108, mo_w109, mo_w110, mo_w111, mo_w112, mo_w113, mo_w114, mo_w115, mo_w116, mo_w117, mo_w118, mo_w119, mo_w120, mo_w121, mo_w122, mo_w123, mo_w124, mo_w125, mo_w126, mo_w127, mo_w128, mo_w129, mo_w130, mo_w131, mo_w132, mo_w133, mo_w134, mo_w135, mo_w136, mo_w137, mo_w138, mo_w139, mo_w140, mo_w141, mo_w142, mo_w143, pl.1]
      rw [if_pos (nI_le (Nat.le_refl _) (by omega))]
    | succ d ih =>
      intro i fu u hi hf f hr
      obtain ⟨fu, rfl⟩ : ∃ g, fu = g + 1 := ⟨fu - 1, by omega⟩
      have s1 := hS.f f
      have pl := hp.f f (fun n j a b => by omega)
      rcases pl.2.1 with e0 | ⟨pa, e59, ea, ep⟩
      · omega
      have e141 := ep i (by omega)
      have hlen : (B ++ P.take i).length = B.length + i := by
        rw [List.length_append, List.length_take]
        omega
      have e127 : ob_i u 127 s = nI (B.length + i) := by
        have := hr.2.2.2.2.2.2.2.2.2.2.2.2.1
        rw [hlen] at this
        exact this
      let w := ob_setI (ob_setI u 126 (80 * s + (B.length + i)) (nI (P.getD i 0))) 127 s (nI (B.length + i + 1))
      have fw : mo_F (fun n j => (n = 127 ∧ j = s) ∨ (n = 126 ∧ 80 * s ≤ j ∧ j < 80 * s + 80)) t w := (f.s (by omega)).s (by omega)
      have e2 : B ++ P.take (i + 1) = B ++ P.take i ++ [P.getD i 0] := by
        have hi2 : i < P.length := by omega
        rw [List.append_assoc, List.take_add_one, List.getD_eq_getElem?_getD, List.getElem?_eq_getElem hi2]
        rfl
      have rw' : mo_Sr w s F (B ++ P.take (i + 1)) a := by
        obtain ⟨h1, h2, h3, h4, h5, h6, h7, h8, h9, h10, h11', h12, h13, h14, h15⟩ := hr
        refine ⟨by rw [ob_i_n (by omega), ob_i_n (by omega)]; exact h1, by rw [ob_i_n (by omega), ob_i_n (by omega)]; exact h2, by rw [ob_i_n (by omega), ob_i_n (by omega)]; exact h3, by rw [ob_i_n (by omega), ob_i_n (by omega)]; exact h4, by rw [ob_i_n (by omega), ob_i_n (by omega)]; exact h5, by rw [ob_i_n (by omega), ob_i_n (by omega)]; exact h6, by rw [ob_i_n (by omega), ob_i_n (by omega)]; exact h7, by rw [ob_i_n (by omega), ob_i_n (by omega)]; exact h8, by rw [ob_i_n (by omega), ob_i_n (by omega)]; exact h9, by rw [ob_i_n (by omega), ob_i_n (by omega)]; exact h10, by rw [ob_i_n (by omega), ob_i_n (by omega)]; exact h11', by rw [ob_i_n (by omega), ob_i_n (by omega)]; exact h12, ?_, ?_, ?_⟩
        · rw [ob_i_self, e2, List.length_append, hlen]
          rfl
        · intro j hj
          rw [e2, List.length_append, hlen] at hj
          have hj : j < B.length + i + 1 := hj
          rw [ob_i_n (by omega), e2]
          by_cases c : j = B.length + i
          · rw [c, ob_i_self, List.getD_eq_getElem?_getD, List.getD_eq_getElem?_getD, List.getElem?_append_right (by omega), hlen]
            simp
          · rw [ob_i_k (by omega), h14 j (by omega)]
            simp only [List.getD_eq_getElem?_getD]
            rw [List.getElem?_append_left (l₁ := B ++ List.take i P) (by rw [hlen]; omega)]
        · rw [e2, List.length_append, hlen]
          show B.length + i + 1 ≤ 80
          omega
      obtain ⟨v, ev, rv, fv⟩ := ih (i + 1) fu w (by omega) (by omega) fw rw'
      refine ⟨v, ?_, rv, fv⟩
      simp (disch := first | assumption | (simp only [mo_shs]; assumption) | omega | (simp; done)) only [B_Mo_append_2, ob_i_self, ob_i_n, ob_i_k, mo_shs, Option.bind_some, ob_b2_s, mo_this, mo_g, mo_p, mo_r0, mo_r1, mo_r2, mo_r7, mo_r8, mo_r9, mo_r10, mo_r11, mo_r12, mo_r13, mo_r14, mo_r15, mo_r16, mo_r17, mo_r18, mo_r19, mo_r20, mo_r21, mo_r22, mo_r23, mo_r24, mo_r25, mo_r26, mo_r27, mo_r28, mo_r29, mo_r30, mo_r31, mo_r33, mo_r34, mo_r35, mo_r36, mo_r40, mo_r41, mo_r42, mo_r43, mo_r44, mo_r47, mo_r55, mo_r56, mo_a104, mo_a105, mo_a106, mo_a107, mo_a108, mo_a109, mo_a110, mo_a111, mo_a112, mo_a113, mo_a114, mo_a115, mo_a116, mo_a117, mo_a118, mo_a119, mo_a120, mo_a121, mo_a122, mo_a123, mo_a124, mo_a125, mo_a126, mo_a127, mo_a128, mo_a129, mo_a130, mo_a131, mo_a132, mo_a133, mo_a134, mo_a135, mo_a136, mo_a137, mo_a138, mo_a139, mo_a140, mo_a141, mo_a142, mo_a143, mo_w104, mo_w105, mo_w106, mo_w107, mo_w108, mo_w109, mo_w110, mo_w111, mo_w112, mo_w113, mo_w114, mo_w115, mo_w116, mo_w117, mo_w118, mo_w119, mo_w120, mo_w121, mo_w122, mo_w123, mo_w124, mo_w125, mo_w126, mo_w127, mo_w128, mo_w129, mo_w130, mo_w131, mo_w132, mo_w133, mo_w134, mo_w135, mo_w136, mo_w137, mo_w138, mo_w139, mo_w140, mo_w141, mo_w142, mo_w143, pl.1, e127, e59, mo_x80, nI_add, nI_1]
      rw [if_neg (nI_ge (by omega) (by omega)), e141]
      exact ev
  obtain ⟨u, eu, ru, fu⟩ := key P.length 0 ob_fu t (by omega) (by show P.length < 2000; omega) mo_F.rf (by simpa using h)
  refine ⟨u, ?_, ru, fu⟩
  simp (disch := first | assumption | (simp only [mo_shs]; assumption) | omega | (simp; done)) only [X_Mo_append, ob_i_self, ob_i_n, ob_i_k, mo_shs, Option.bind_some, ob_b2_s, mo_this, mo_g, mo_p, mo_r0, mo_r1, mo_r2, mo_r7, mo_r8, mo_r9, mo_r10, mo_r11, mo_r12, mo_r13, mo_r14, mo_r15, mo_r16, mo_r17, mo_r18, mo_r19, mo_r20, mo_r21, mo_r22, mo_r23, mo_r24, mo_r25, mo_r26, mo_r27, mo_r28, mo_r29, mo_r30, mo_r31, mo_r33, mo_r34, mo_r35, mo_r36, mo_r40, mo_r41, mo_r42, mo_r43, mo_r44, mo_r47, mo_r55, mo_r56, mo_a104, mo_a105, mo_a106, mo_a107, mo_a108, mo_a109, mo_a110, mo_a111, mo_a112, mo_a113, mo_a114, mo_a115, mo_a116, mo_a117, mo_a118, mo_a119, mo_a120, mo_a121, mo_a122, mo_a123, mo_a124, mo_a125, mo_a126, mo_a127, mo_a128, mo_a129, mo_a130, mo_a131, mo_a132, mo_a133, mo_a134, mo_a135, mo_a136, mo_a137, mo_a138, mo_a139, mo_a140, mo_a141, mo_a142, mo_a143, mo_w104, mo_w105, mo_w106, mo_w107, mo_w108, mo_w109, mo_w110, mo_w111, mo_w112, mo_w113, mo_w114, mo_w115, mo_w116, mo_w117, mo_w118, mo_w119, mo_w120, mo_w121, mo_w122, mo_w123, mo_w124, mo_w125, mo_w126, mo_w127, mo_w128, mo_w129, mo_w130, mo_w131, mo_w132, mo_w133, mo_w134, mo_w135, mo_w136, mo_w137, mo_w138, mo_w139, mo_w140, mo_w141, mo_w142, mo_w143]
  exact eu
/-- the reference's client -/
def mo_Ci (t : ob_S) (c : cl_S) : Prop := (∀ s, s < 2 → mo_Sl t s (c.1 s) (c.2.1 s) ∧ mo_Pe t s (c.2.2.1 s)) ∧ (ob_i t 103 5 = nI c.2.2.2.1 ∧ c.2.2.2.1 < 65536) ∧ mo_Li t c.2.2.2.2
abbrev dCl : Nat → Nat → Prop := fun n j => dW n j ∨ dL n j ∨ (107 ≤ n ∧ n ≤ 113 ∧ n ≠ 112 ∧ j < 2) ∨ (n = 112 ∧ j < 128) ∨ (114 ≤ n ∧ n ≤ 127) ∨ (n = 103 ∧ j = 5)
abbrev dSP (s : Nat) : Nat → Nat → Prop := fun n j => dS s n j ∨ dP s n j
theorem mo_Ci.f {D : Nat → Nat → Prop} {t u : ob_S} {c : cl_S} (h : mo_Ci t c) (f : mo_F D t u) (hD : ∀ n j, dCl n j → ¬ dW n j → ¬ D n j) : mo_Ci u c := ⟨fun s hs => ⟨(h.1 s hs).1.f f (fun n j a => hD n j (by omega) (by omega)), (h.1 s hs).2.f f (fun n j a => hD n j (by omega) (by omega))⟩, ⟨(f.2.2.2.2 _ _ (hD _ _ (by omega) (by omega))).trans h.2.1.1, h.2.1.2⟩, h.2.2.f f (fun n j a => hD n j (by omega) (by omega))⟩
/-- slot s has moved -/
theorem mo_Ci.st {t u : ob_S} {c : cl_S} {s : Nat} {F : Nat → Nat} {B : List Nat} {o : Option ap_P} (h : mo_Ci t c) (f : mo_F (dSP s) t u) (hs : s < 2) (hl : mo_Sl u s F B) (hp : mo_Pe u s o) : mo_Ci u (cl_set c s F B o) := by
  refine ⟨fun k hk => ?_, ⟨(f.2.2.2.2 _ _ (by omega)).trans h.2.1.1, h.2.1.2⟩, h.2.2.f f (fun n j a b => by omega)⟩
  by_cases e : k = s
  · subst e
    simp only [cl_set, va_up_self]
    exact ⟨hl, hp⟩
  · simp only [cl_set, va_up_ne _ _ e]
    exact ⟨(h.1 k hk).1.f f (fun n j a b => by omega), (h.1 k hk).2.f f (fun n j a b => by omega)⟩
/-- slot s has moved, and asks -/
theorem y_askC {t u : ob_S} {c : cl_S} {s b : Nat} {F : Nat → Nat} {B : List Nat} {o : Option ap_P} {a : Int32} (hS : mo_sh t) (h : mo_Ci t c) (f : mo_F (dSP s) t u) (hs : s < 2) (hr : mo_Sr u s F B a) (ok : sl_ok F B) (so : so_a s F) (hb : (b = 1 ∧ F 6 = 0) ∨ (b = 0 ∧ F 6 ≠ 0)) : ∃ w, X_Mo_ask 103 (nI s) (nI b) u = some w ∧ mo_Ci w (cl_ask (cl_set c s F B o) s) ∧ mo_F dCl t w := by
  obtain ⟨w, ew, q1, q2, q3, q4, q5⟩ := y_ask (hS.f f) hr (h.2.2.f f (fun n j a b => by omega)) ((f.2.2.2.2 _ _ (by omega)).trans h.2.1.1) h.2.1.2 hs ok so hb
  refine ⟨w, ew, ⟨fun k hk => ?_, ⟨q3, Nat.mod_lt _ (by omega)⟩, by simpa only [cl_ask, cl_set, va_up_self] using q4⟩, (f.mono (fun n j z => by omega)).tr (q5.mono (fun n j z => by omega))⟩
  by_cases e : k = s
  · subst e
    simp only [cl_ask, cl_set, va_up_self]
    exact ⟨q1, q2⟩
  · simp only [cl_ask, cl_set, va_up_ne _ _ e]
    exact ⟨((h.1 k hk).1.f f (fun n j a b => by omega)).f q5 (fun n j a b => by omega), ((h.1 k hk).2.f f (fun n j a b => by omega)).f q5 (fun n j a b => by omega)⟩
theorem mo_Sl.mk {t : ob_S} {s : Nat} {F : Nat → Nat} {B : List Nat} {a : Int32} (h : mo_Sr t s F B a) (h2 : F 2 ≠ 0) (h1 : F 2 ≠ 1) (ok : sl_ok F B) (so : so_a s F) : mo_Sl t s F B := ⟨a, by rw [up11, if_neg h2]; exact h, fun z => absurd z h1, ok, so.1, fun _ => so.2.1, so.2.2⟩
theorem mo_Sl.r {t : ob_S} {s : Nat} {F : Nat → Nat} {B : List Nat} (h : mo_Sl t s F B) (h2 : F 2 ≠ 0) : ∃ a, mo_Sr t s F B a ∧ (F 2 = 1 → F 7 ≠ 0 → a = nI (af_more B.length (F 6) (F 5))) ∧ sl_ok F B ∧ so_a s F := by
  obtain ⟨a, q1, q2, q3, q4⟩ := h
  rw [up11, if_neg h2] at q1
  exact ⟨a, q1, q2, q3, q4.1, q4.2.1 h2, q4.2.2⟩

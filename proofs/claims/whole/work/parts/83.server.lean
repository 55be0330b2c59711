/-! LAYER 2, 43: the reference's server -/
def mo_Ct (t : ob_S) (a b : Nat) (ct : Nat → List Nat) : Prop := ∀ r, r < 4 → ob_i t b r = nI (ct r).length ∧ mo_rw t a (64 * r) (ct r) ∧ (ct r).length ≤ 64 ∧ ∀ x ∈ ct r, x < 256
theorem mo_Ct.f {D : Nat → Nat → Prop} {t u : ob_S} {a b : Nat} {ct : Nat → List Nat} (h : mo_Ct t a b ct) (f : mo_F D t u) (h1 : ∀ j, ¬ D a j) (h2 : ∀ j, ¬ D b j) : mo_Ct u a b ct := fun r hr => ⟨(f.2.2.2.2 _ _ (h2 _)).trans (h r hr).1, (h r hr).2.1.f f (fun j _ _ => h1 j), (h r hr).2.2⟩
def mo_Wa (t : ob_S) (k : Nat) (x : sv_W) : Prop := ob_i t 132 k = nI x.1 ∧ ob_i t 133 k = nI x.2.1 ∧ ob_i t 134 k = nI x.2.2.1 ∧ ob_i t 135 k = nI x.2.2.2.1 ∧ mo_Pe t (2 + k) x.2.2.2.2 ∧ wa_ok x
abbrev dA (k : Nat) : Nat → Nat → Prop := fun n j => (132 ≤ n ∧ n ≤ 135 ∧ j = k) ∨ dP (2 + k) n j
theorem mo_Wa.f {D : Nat → Nat → Prop} {t u : ob_S} {k : Nat} {x : sv_W} (h : mo_Wa t k x) (f : mo_F D t u) (hD : ∀ n j, dA k n j → ¬ D n j) : mo_Wa u k x := ⟨(f.2.2.2.2 _ _ (hD _ _ (by omega))).trans h.1, (f.2.2.2.2 _ _ (hD _ _ (by omega))).trans h.2.1, (f.2.2.2.2 _ _ (hD _ _ (by omega))).trans h.2.2.1, (f.2.2.2.2 _ _ (hD _ _ (by omega))).trans h.2.2.2.1, h.2.2.2.2.1.f f (fun n j a => hD n j (by omega)), h.2.2.2.2.2⟩
def mo_Ws (t : ob_S) (W : List sv_W) : Prop := ob_i t 103 32 = nI W.length ∧ W.length ≤ 2 ∧ ∀ k x, W[k]? = some x → mo_Wa t k x
abbrev dWs : Nat → Nat → Prop := fun n j => (n = 103 ∧ j = 32) ∨ dA 0 n j ∨ dA 1 n j
theorem mo_Ws.f {D : Nat → Nat → Prop} {t u : ob_S} {W : List sv_W} (h : mo_Ws t W) (f : mo_F D t u) (hD : ∀ n j, dWs n j → ¬ D n j) : mo_Ws u W := ⟨(f.2.2.2.2 _ _ (hD _ _ (by omega))).trans h.1, h.2.1, fun k x e => (h.2.2 k x e).f f (fun n j a => hD n j (by
  have := h.2.1
  have := (List.getElem?_eq_some_iff.mp e).1
  rcases (show k = 0 ∨ k = 1 by omega) with rfl | rfl
  · exact Or.inr (Or.inl a)
  · exact Or.inr (Or.inr a)))⟩
/-- watcher k has moved -/
theorem mo_Ws.set {t u : ob_S} {W : List sv_W} {k : Nat} {y : sv_W} (h : mo_Ws t W) (f : mo_F (dA k) t u) (hk : k < W.length) (hy : mo_Wa u k y) : mo_Ws u (W.set k y) := by
  refine ⟨by rw [List.length_set]; exact (f.2.2.2.2 _ _ (by omega)).trans h.1, by rw [List.length_set]; exact h.2.1, fun j x e => ?_⟩
  by_cases c : j = k
  · subst c
    rw [List.getElem?_set_self hk] at e
    cases e
    exact hy
  · rw [List.getElem?_set_ne (fun z => c z.symm)] at e
    exact (h.2.2 j x e).f f (fun n i a b => by omega)
def mo_an (t : ob_S) (k : Nat) (q : am_A) : Prop := ob_i t 136 k = q.1 ∧ ob_i t 137 k = q.2.1 ∧ ob_i t 139 k = nI q.2.2.length ∧ mo_rw t 138 (64 * k) q.2.2 ∧ q.2.2.length ≤ 48 ∧ ∀ x ∈ q.2.2, x < 256
def mo_Me (t : ob_S) (MM : List am_A) : Prop := ob_i t 103 39 = nI MM.length ∧ MM.length ≤ 4 ∧ ∀ k q, MM[k]? = some q → mo_an t k q
theorem mo_an.f {D : Nat → Nat → Prop} {t u : ob_S} {k : Nat} {q : am_A} (h : mo_an t k q) (f : mo_F D t u) (hD : ∀ n j, 136 ≤ n ∧ n ≤ 139 ∧ (n = 138 ∨ j = k) ∧ (n = 138 → 64 * k ≤ j ∧ j < 64 * k + 64) → ¬ D n j) : mo_an u k q := ⟨(f.2.2.2.2 _ _ (hD _ _ (by omega))).trans h.1, (f.2.2.2.2 _ _ (hD _ _ (by omega))).trans h.2.1, (f.2.2.2.2 _ _ (hD _ _ (by omega))).trans h.2.2.1, h.2.2.2.1.f f (fun j a b => hD _ _ (by have := h.2.2.2.2.1; omega)), h.2.2.2.2⟩
abbrev dMe : Nat → Nat → Prop := fun n j => (n = 103 ∧ j = 39) ∨ (136 ≤ n ∧ n ≤ 139)
theorem mo_Me.f {D : Nat → Nat → Prop} {t u : ob_S} {MM : List am_A} (h : mo_Me t MM) (f : mo_F D t u) (hD : ∀ n j, dMe n j → ¬ D n j) : mo_Me u MM := ⟨(f.2.2.2.2 _ _ (hD _ _ (by omega))).trans h.1, h.2.1, fun k q e => (h.2.2 k q e).f f (fun n j a => hD n j (by omega))⟩
/-- the server but for the line -/
def mo_Sx (t : ob_S) (v : sv_S) : Prop := ob_i t 103 38 = v.2.2.2.2.1 ∧ (ob_i t 103 37 = nI v.2.2.2.2.2.1 ∧ v.2.2.2.2.2.1 < 65536) ∧ (ob_i t 103 6 = nI v.2.2.2.2.2.2.1 ∧ v.2.2.2.2.2.2.1 < 65536) ∧ mo_Ct t 128 129 v.1 ∧ mo_Ct t 130 131 v.2.1 ∧ mo_Ws t v.2.2.1 ∧ mo_Me t v.2.2.2.1
abbrev dV : Nat → Nat → Prop := fun n j => (n = 103 ∧ (j = 38 ∨ j = 37 ∨ j = 6)) ∨ (128 ≤ n ∧ n ≤ 131) ∨ dWs n j ∨ dMe n j
theorem mo_Sx.f {D : Nat → Nat → Prop} {t u : ob_S} {v : sv_S} (h : mo_Sx t v) (f : mo_F D t u) (hD : ∀ n j, dV n j → ¬ D n j) : mo_Sx u v := by
  obtain ⟨h1, h2, h3, h4, h5, h6, h7⟩ := h
  exact ⟨(f.2.2.2.2 _ _ (hD _ _ (by omega))).trans h1, ⟨(f.2.2.2.2 _ _ (hD _ _ (by omega))).trans h2.1, h2.2⟩, ⟨(f.2.2.2.2 _ _ (hD _ _ (by omega))).trans h3.1, h3.2⟩, h4.f f (fun j => hD _ _ (by omega)) (fun j => hD _ _ (by omega)), h5.f f (fun j => hD _ _ (by omega)) (fun j => hD _ _ (by omega)), h6.f f (fun n j a => hD n j (Or.inr (Or.inr (Or.inl a)))), h7.f f (fun n j a => hD n j (Or.inr (Or.inr (Or.inr a))))⟩
def mo_Sv (t : ob_S) (v : sv_S) : Prop := mo_Sx t v ∧ mo_Li t v.2.2.2.2.2.2.2
abbrev dSv : Nat → Nat → Prop := fun n j => dV n j ∨ dL n j ∨ dW n j
theorem y_drop143 {T : ob_S} (hS : mo_sh T) : ∃ u, B_Mo_dropWatcher_143 ob_fu 103 0 T = some u ∧ mo_F (fun n j => (n = 112 ∧ 128 ≤ j ∧ j < 192) ∨ (n = 107 ∧ j = 3) ∨ (n = 103 ∧ j = 32)) T u ∧ (∀ i, i < 64 → ob_i u 112 (128 + i) = ob_i T 112 (192 + i)) ∧ ob_i u 103 32 = ob_i T 103 32 - 1 := by
  obtain ⟨g, w, ew, fw, vw⟩ := mo_loop (G := fun fu i x => B_Mo_dropWatcher_143 fu 103 i x) (dst := 112) (o := 128) (n := 64) (val := fun i => ob_i T 112 (192 + i)) (t := T) (fun fu i u hi f => by
    have s1 : mo_sh u := hS.f f
    have e : ob_i u 112 (192 + i) = ob_i T 112 (192 + i) := f.2.2.2.2 _ _ (by omega)
    have x1 : (192 : Int32) + nI i = nI (192 + i) := by rw [show (192 : Int32) = nI 192 from rfl, nI_add]
    have x2 : (128 : Int32) + nI i = nI (128 + i) := by rw [show (128 : Int32) = nI 128 from rfl, nI_add]
    show B_Mo_dropWatcher_143 (fu + 1) 103 (nI i) u = _
    rw [B_Mo_dropWatcher_143, if_neg (show ¬ (64 : Int32) ≤ nI i from nI_ge (b := 64) hi (by omega)), ob_b_e (mo_r12 s1), ob_b_e (mo_r12 s1), x1, x2, ob_b_e (mo_a112 s1 (by omega)), ob_b_e (mo_w112 s1 (by omega)), nI_1, e]) ob_fu (by decide)
  have s1 := hS.f fw
  refine ⟨ob_setI (ob_setI w 107 3 0) 103 32 (ob_i T 103 32 - 1), ?_, ((fw.mono (fun n j z => by omega)).s (by omega)).s (by omega), fun i hi => ?_, ob_i_self⟩
  · refine Eq.trans ew ?_
    have e32 : ob_i (ob_setI w 107 3 0) 103 32 = ob_i T 103 32 := by
      rw [ob_i_n (by omega)]
      exact fw.2.2.2.2 _ _ (by omega)
    show B_Mo_dropWatcher_143 (g + 1) 103 (nI 64) w = _
    rw [B_Mo_dropWatcher_143, if_pos (show (64 : Int32) ≤ nI 64 by decide), ob_b_e (mo_r7 s1), ob_b_e (show ob_wZ 107 3 0 w = some (ob_setI w 107 3 0) from mo_w107 (i := 3) s1 (by omega) (Or.inl rfl)), B_Mo_dropWatcher_182, ob_b_e (mo_g (t := ob_setI w 107 3 0) s1), e32, ob_b_e (mo_p (t := ob_setI w 107 3 0) s1)]
  · rw [ob_i_n (by omega), ob_i_n (by omega)]
    exact vw i hi
theorem y_drop {t : ob_S} {W : List sv_W} {k : Nat} (hS : mo_sh t) (h : mo_Ws t W) (hk : k < W.length) : ∃ u, X_Mo_dropWatcher 103 (nI k) t = some u ∧ mo_Ws u (W.eraseIdx k) ∧ mo_F dWs t u := by
  match W, k, h, hk with
  | [x], 0, h, _ =>
    have e32 : ob_i (ob_setI t 107 2 0) 103 32 = nI 1 := by rw [ob_i_n (by omega)]; exact h.1
    refine ⟨ob_setI (ob_setI t 107 2 0) 103 32 (nI 0), ?_, ⟨ob_i_self, by simp, fun k y e => by simp at e⟩, (mo_F.o (by omega)).s (by omega)⟩
    rw [X_Mo_dropWatcher, mo_this hS, ob_b_e (mo_r7 hS), ob_b_e (show ob_wZ 107 (2 + nI 0) 0 t = some (ob_setI t 107 2 0) from mo_w107 (i := 2) hS (by omega) (Or.inl rfl)), if_neg (show ¬ ¬ nI 0 = 0 from fun z => z rfl), ob_b_e (mo_g (t := ob_setI t 107 2 0) hS), e32, if_pos (show ¬ nI 1 = (2 : Int32) by decide), B_Mo_dropWatcher_182, ob_b_e (mo_g (t := ob_setI t 107 2 0) hS), e32, ob_b_e (mo_p (t := ob_setI t 107 2 0) hS)]
    rfl
  | [x, y], 1, h, _ =>
    have e32 : ob_i (ob_setI t 107 3 0) 103 32 = nI 2 := by rw [ob_i_n (by omega)]; exact h.1
    have f : mo_F (fun n j => (n = 107 ∧ j = 3) ∨ (n = 103 ∧ j = 32)) t (ob_setI (ob_setI t 107 3 0) 103 32 (nI 1)) := (mo_F.o (by omega)).s (by omega)
    refine ⟨ob_setI (ob_setI t 107 3 0) 103 32 (nI 1), ?_, ⟨ob_i_self, by simp, fun k z e => ?_⟩, f.mono (fun n j z => by omega)⟩
    · rw [X_Mo_dropWatcher, mo_this hS, ob_b_e (mo_r7 hS), ob_b_e (show ob_wZ 107 (2 + nI 1) 0 t = some (ob_setI t 107 3 0) from mo_w107 (i := 3) hS (by omega) (Or.inl rfl)), if_pos (show ¬ nI 1 = 0 by decide), B_Mo_dropWatcher_182, ob_b_e (mo_g (t := ob_setI t 107 3 0) hS), e32, ob_b_e (mo_p (t := ob_setI t 107 3 0) hS)]
      rfl
    · have e : [x][k]? = some z := e
      have hk0 : k = 0 := by
        have := (List.getElem?_eq_some_iff.mp e).1
        simp at this
        omega
      subst hk0
      have e : x = z := by simpa using e
      subst e
      exact (h.2.2 0 x rfl).f f (fun n j a b => by omega)
  | [x, y], 0, h, _ =>
    have e32 : ob_i (ob_setI t 107 2 0) 103 32 = nI 2 := by rw [ob_i_n (by omega)]; exact h.1
    have hy := h.2.2 1 y rfl
    obtain ⟨T, hT⟩ : ∃ T, T = ob_setI (ob_setI (ob_setI (ob_setI (ob_setI (ob_setI (ob_setI (ob_setI (ob_setI (ob_setI (ob_setI t 107 2 0) 132 0 (ob_i t 132 1)) 133 0 (ob_i t 133 1)) 134 0 (ob_i t 134 1)) 135 0 (ob_i t 135 1)) 107 2 (ob_i t 107 3)) 108 2 (ob_i t 108 3)) 109 2 (ob_i t 109 3)) 110 2 (ob_i t 110 3)) 111 2 (ob_i t 111 3)) 113 2 (ob_i t 113 3) := ⟨_, rfl⟩
    have fT : mo_F (fun n j => (132 ≤ n ∧ n ≤ 135 ∧ j = 0) ∨ (107 ≤ n ∧ n ≤ 113 ∧ n ≠ 112 ∧ j = 2)) t T := by
      rw [hT]
      exact ((((((((((mo_F.o (by omega)).s (by omega)).s (by omega)).s (by omega)).s (by omega)).s (by omega)).s (by omega)).s (by omega)).s (by omega)).s (by omega)).s (by omega)
    have b135 : ob_i t 135 1 = 0 ∨ ob_i t 135 1 = 1 := by
      rw [hy.2.2.2.1]
      rcases (show y.2.2.2.1 = 0 ∨ y.2.2.2.1 = 1 by have := hy.2.2.2.2.2.2.2.2; omega) with z | z
      · exact Or.inl (by rw [z]; rfl)
      · exact Or.inr (by rw [z]; rfl)
    have b107 : ob_i t 107 3 = 0 ∨ ob_i t 107 3 = 1 := by
      rw [show ob_i t 107 3 = _ from hy.2.2.2.2.1.act]
      split
      · exact Or.inl rfl
      · exact Or.inr rfl
    have sT := hS.f fT
    have a132 : ob_i T 132 0 = ob_i t 132 1 := by rw [hT]; simp [mo_is]
    have a133 : ob_i T 133 0 = ob_i t 133 1 := by rw [hT]; simp [mo_is]
    have a134 : ob_i T 134 0 = ob_i t 134 1 := by rw [hT]; simp [mo_is]
    have a135 : ob_i T 135 0 = ob_i t 135 1 := by rw [hT]; simp [mo_is]
    have a107 : ob_i T 107 2 = ob_i t 107 3 := by rw [hT]; simp [mo_is]
    have a108 : ob_i T 108 2 = ob_i t 108 3 := by rw [hT]; simp [mo_is]
    have a109 : ob_i T 109 2 = ob_i t 109 3 := by rw [hT]; simp [mo_is]
    have a110 : ob_i T 110 2 = ob_i t 110 3 := by rw [hT]; simp [mo_is]
    have a111 : ob_i T 111 2 = ob_i t 111 3 := by rw [hT]; simp [mo_is]
    have a113 : ob_i T 113 2 = ob_i t 113 3 := by rw [hT]; simp [mo_is]
    have t32 : ob_i T 103 32 = nI 2 := (fT.2.2.2.2 _ _ (by omega)).trans h.1
    obtain ⟨u, eu, fu, vu, u32⟩ := y_drop143 sT
    rw [t32] at u32
    have x1 : (2 : Int32) + nI 0 = nI 2 := rfl
    have l0 : (0 : Int32) = nI 0 := rfl
    refine ⟨u, ?_, ⟨u32.trans (show nI 2 - 1 = nI 1 by decide), by simp, fun k z e => ?_⟩, (fT.mono (fun n j z => by omega)).tr (fu.mono (fun n j z => by omega))⟩
    · refine Eq.trans ?_ eu
      rw [X_Mo_dropWatcher, mo_this hS, ob_b_e (mo_r7 hS), ob_b_e (show ob_wZ 107 (2 + nI 0) 0 t = some (ob_setI t 107 2 0) from mo_w107 (i := 2) hS (by omega) (Or.inl rfl)), if_neg (show ¬ ¬ nI 0 = 0 from fun z => z rfl), ob_b_e (mo_g (t := ob_setI t 107 2 0) hS), e32, if_neg (show ¬ ¬ nI 2 = (2 : Int32) from fun z => z rfl)]
      rw [show B_Mo_dropWatcher_143 ob_fu 103 0 T = B_Mo_dropWatcher_143 ob_fu 103 (nI 0) T from rfl]
      rw [mo_l1, mo_l2, mo_l3, mo_l0]
      simp (disch := first | assumption | (simp only [mo_shs]; assumption) | omega | (simp; done) | contradiction) only [ob_i_self, ob_i_n, ob_i_k, mo_shs, Option.bind_some, ob_b2_s, mo_this, mo_g, mo_p, mo_r0, mo_r1, mo_r2, mo_r7, mo_r8, mo_r9, mo_r10, mo_r11, mo_r12, mo_r13, mo_r14, mo_r15, mo_r16, mo_r17, mo_r18, mo_r19, mo_r20, mo_r21, mo_r22, mo_r23, mo_r24, mo_r25, mo_r26, mo_r27, mo_r28, mo_r29, mo_r30, mo_r31, mo_r33, mo_r34, mo_r35, mo_r36, mo_r40, mo_r41, mo_r42, mo_r43, mo_r44, mo_r47, mo_r55, mo_r56, mo_a104, mo_a105, mo_a106, mo_a107, mo_a108, mo_a109, mo_a110, mo_a111, mo_a112, mo_a113, mo_a114, mo_a115, mo_a116, mo_a117, mo_a118, mo_a119, mo_a120, mo_a121, mo_a122, mo_a123, mo_a124, mo_a125, mo_a126, mo_a127, mo_a128, mo_a129, mo_a130, mo_a131, mo_a132, mo_a133, mo_a134, mo_a135, mo_a136, mo_a137, mo_a138, mo_a139, mo_a140, mo_a141, mo_a142, mo_a143, mo_w104, mo_w105, mo_w106, mo_w107, mo_w108, mo_w109, mo_w110, mo_w111, mo_w112, mo_w113, mo_w114, mo_w115, mo_w116, mo_w117, mo_w118, mo_w119, mo_w120, mo_w121, mo_w122, mo_w123, mo_w124, mo_w125, mo_w126, mo_w127, mo_w128, mo_w129, mo_w130, mo_w131, mo_w132, mo_w133, mo_w134, mo_w135, mo_w136, mo_w137, mo_w138, mo_w139, mo_w140, mo_w141, mo_w142, mo_w143]
      rw [hT]
      rfl
    · have e : [y][k]? = some z := e
      have hk0 : k = 0 := by
        have := (List.getElem?_eq_some_iff.mp e).1
        simp at this
        omega
      subst hk0
      have e : y = z := by simpa using e
      subst e
      obtain ⟨w1, w2, w3, w4, w5, w6⟩ := hy
      refine ⟨?_, ?_, ?_, ?_, ?_, w6⟩
      · rw [fu.2.2.2.2 _ _ (by omega), a132, w1]
      · rw [fu.2.2.2.2 _ _ (by omega), a133, w2]
      · rw [fu.2.2.2.2 _ _ (by omega), a134, w3]
      · rw [fu.2.2.2.2 _ _ (by omega), a135, w4]
      · cases ho : y.2.2.2.2 with
        | none =>
          rw [ho] at w5
          show ob_i u 107 2 = 0
          rw [fu.2.2.2.2 _ _ (by omega), a107]
          exact w5
        | some q =>
          rw [ho] at w5
          obtain ⟨p1, p2, p3, p4, p5, p6, p7, p8, p9⟩ := w5
          refine ⟨?_, ?_, ?_, ?_, ?_, ?_, fun i hi => ?_, p8, p9⟩
          · rw [fu.2.2.2.2 _ _ (by omega), a107]; exact p1
          · rw [fu.2.2.2.2 _ _ (by omega), a108]; exact p2
          · rw [fu.2.2.2.2 _ _ (by omega), a109]; exact p3
          · rw [fu.2.2.2.2 _ _ (by omega), a110]; exact p4
          · rw [fu.2.2.2.2 _ _ (by omega), a111]; exact p5
          · rw [fu.2.2.2.2 _ _ (by omega), a113]; exact p6
          · have := p8.2.2.2.2.2
            rw [vu i (by omega), fT.2.2.2.2 _ _ (by omega)]
            exact p7 i hi
theorem y_watcherOf {t : ob_S} {W : List sv_W} {tk : Nat} (hS : mo_sh t) (h : mo_Ws t W) (htk : tk < 256) : X_Mo_watcherOf 103 (nI tk) t = some (oI (wt_ix tk W 0), t) := by
  have stop : ∀ fu i, W.length ≤ i → i < 100 → B_Mo_watcherOf_2 (fu + 1) 103 (nI tk) (nI i) t = some (-1, t) := fun fu i hi hi2 => by
    rw [B_Mo_watcherOf_2, ob_b_e (mo_g hS), h.1, if_pos (nI_le hi (by omega))]
  have step : ∀ fu i x, W[i]? = some x → B_Mo_watcherOf_2 (fu + 1) 103 (nI tk) (nI i) t = if x.1 = tk then some (nI i, t) else B_Mo_watcherOf_2 fu 103 (nI tk) (nI (i + 1)) t := fun fu i x hx => by
    have hw := h.2.2 i x hx
    have hi := (List.getElem?_eq_some_iff.mp hx).1
    have h2 := h.2.1
    have h256 := hw.2.2.2.2.2.1
    rw [B_Mo_watcherOf_2, ob_b_e (mo_g hS), h.1, if_neg (nI_ge hi (by omega)), ob_b_e (mo_r33 hS), ob_b_e (mo_a132 hS (by omega)), hw.1, nI_1]
    by_cases c : x.1 = tk
    · rw [if_neg (show ¬ ¬ nI x.1 = nI tk from fun z => z (by rw [c])), if_pos c]
    · rw [if_pos (show ¬ nI x.1 = nI tk from fun z => c ((nI_eq (by omega) (by omega)).mp z)), if_neg c]
  rw [X_Mo_watcherOf, mo_this hS]
  show B_Mo_watcherOf_2 (1997 + 1 + 1 + 1) 103 (nI tk) (nI 0) t = _
  match W, h, stop, step with
  | [], h, stop, step =>
    rw [stop _ 0 (by simp) (by omega)]
    rfl
  | [x], h, stop, step =>
    rw [step _ 0 x rfl, wt_ix]
    by_cases c : x.1 = tk
    · rw [if_pos c, if_pos c]; rfl
    · rw [if_neg c, if_neg c, stop _ 1 (by simp) (by omega)]
      rfl
  | [x, y], h, stop, step =>
    rw [step _ 0 x rfl, wt_ix]
    by_cases c : x.1 = tk
    · rw [if_pos c, if_pos c]; rfl
    · rw [if_neg c, if_neg c, step _ 1 y rfl, wt_ix]
      by_cases d : y.1 = tk
      · rw [if_pos d, if_pos d]; rfl
      · rw [if_neg d, if_neg d, stop _ 2 (by simp) (by omega)]
        rfl
  | x :: y :: z :: W, h, _, _ =>
    have := h.2.1
    simp at this

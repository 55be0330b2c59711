/-! LAYER 2, 4: what waits for an answer -/
/-- id, left, span, repeats, the row -/
abbrev ap_P : Type := Nat × Nat × Nat × Nat × List Nat
/-- what is known of a pending row's numbers -/
def ap_ok (q : ap_P) : Prop := q.1 < 65536 ∧ (1 ≤ q.2.1 ∧ q.2.1 ≤ 1000) ∧ q.2.2.2.1 ≤ 3 ∧ q.2.2.1 ≤ 4 * 2 ^ q.2.2.2.1 ∧ 1 ≤ q.2.2.1 ∧ q.2.2.2.2.length ≤ 48
/-- Pending p over the row n, its array a; none: it isn't active -/
def ob_Pe (t : ob_S) (p n a : Nat) (o : Option ap_P) : Prop := ob_is t p 3 ∧ ob_r t p 0 = some n ∧ p ≠ n ∧ p ≠ a ∧ (∃ L, ob_By t n a 48 L) ∧ match o with
  | none => ob_i t p 2 = 0
  | some q => ob_i t p 2 = 1 ∧ ob_i t p 1 = nI q.1 ∧ ob_i t p 3 = nI q.2.1 ∧ ob_i t p 4 = nI q.2.2.1 ∧ ob_i t p 5 = nI q.2.2.2.1 ∧ ob_By t n a 48 (nb q.2.2.2.2) ∧ ap_ok q
theorem ob_Pe.fr {P : Nat → Prop} {t u : ob_S} {p n a : Nat} {o : Option ap_P} (h : ob_Pe t p n a o) (f : ob_Fr P t u) (hp : ¬ P p) (hn : ¬ P n) (ha : ¬ P a) : ob_Pe u p n a o := by
  obtain ⟨h1, h2, h3, h4, ⟨L, h5⟩, h6⟩ := h
  have e := (f.2.2.2 p hp).1
  refine ⟨⟨by rw [f.1]; exact h1.1, by rw [f.2.1]; exact h1.2⟩, by rw [(f.2.2.2 p hp).2]; exact h2, h3, h4, ⟨L, h5.fr f hn ha⟩, ?_⟩
  cases o with
  | none => dsimp only at h6 ⊢; rw [e]; exact h6
  | some q =>
    dsimp only at h6 ⊢
    obtain ⟨g1, g2, g3, g4, g5, g6, g7⟩ := h6
    exact ⟨by rw [e]; exact g1, by rw [e]; exact g2, by rw [e]; exact g3, by rw [e]; exact g4, by rw [e]; exact g5, g6.fr f hn ha, g7⟩
theorem x_Pe_stop {t : ob_S} {p n a : Nat} {o : Option ap_P} (h : ob_Pe t p n a o) : ∃ u, X_Pe_stop p t = some u ∧ ob_Pe u p n a none ∧ ob_Fr (ob_3 p n a) t u := by
  obtain ⟨h1, h2, h3, h4, ⟨L, h5⟩, h6⟩ := h
  have F : ob_Fr (fun q => q = p) t (ob_setI t p 2 0) := ob_Fr.setI rfl
  refine ⟨ob_setI t p 2 0, ?_, ⟨h1, h2, h3, h4, ⟨L, h5.fr F h3.symm h4.symm⟩, ob_i_self⟩, F.mono (fun q z => Or.inl z)⟩
  rw [X_Pe_stop, ob_this_e h1, ob_b_e (ob_pZ_e h1 (Or.inl rfl))]
theorem x_Pe_isActive {t : ob_S} {p n a : Nat} {o : Option ap_P} (h : ob_Pe t p n a o) : X_Pe_isActive p t = some (if o = none then 0 else 1, t) := by
  obtain ⟨h1, h2, h3, h4, h5, h6⟩ := h
  cases o with
  | none =>
    dsimp only at h6
    rw [X_Pe_isActive, ob_this_e h1, ob_b_e (ob_gI_e h1 h6), if_pos rfl]; rfl
  | some q =>
    dsimp only at h6
    rw [X_Pe_isActive, ob_this_e h1, ob_b_e (ob_gI_e h1 h6.1), if_neg (fun z => by cases z)]; rfl
theorem x_Pe_isFor {t : ob_S} {p n a : Nat} {o : Option ap_P} (id : Nat) (hid : id < 65536) (h : ob_Pe t p n a o) : X_Pe_isFor p (nI id) t = some (if o.map (fun q => q.1) = some id then 1 else 0, t) := by
  obtain ⟨h1, h2, h3, h4, h5, h6⟩ := h
  cases o with
  | none =>
    dsimp only at h6
    rw [X_Pe_isFor, ob_this_e h1, ob_b_e (ob_gI_e h1 h6), if_pos rfl, if_neg (fun z => by cases z)]; rfl
  | some q =>
    dsimp only at h6
    obtain ⟨g1, g2, g3, g4, g5, g6, g7⟩ := h6
    rw [X_Pe_isFor, ob_this_e h1, ob_b_e (ob_gI_e h1 g1), if_neg (by decide), ob_b_e (ob_gI_e h1 g2)]
    by_cases hq : q.1 = id
    · rw [if_neg (fun z => z (by rw [hq])), if_pos (by rw [← hq]; rfl)]; rfl
    · have hq2 : ¬ nI q.1 = nI id := fun z => hq ((nI_eq (by have := g7.1; omega) (by omega)).mp z)
      rw [if_pos hq2, if_neg (show ¬ Option.map (fun q : ap_P => q.1) (some q) = some id from fun z => hq (Option.some.inj z))]; rfl
theorem x_Pe_start {t : ob_S} {p n a n2 a2 m2 : Nat} {o : Option ap_P} {L : List Nat} (id : Nat) (hid : id < 65536) (h : ob_Pe t p n a o) (hL : ob_By t n2 a2 m2 (nb L)) (hd : a2 ≠ a) (hn2 : n2 ≠ n) (hl : L.length ≤ 48) : ∃ u, X_Pe_start p (nI id) n2 t = some u ∧ ob_Pe u p n a (some (id, 4, 4, 0, L)) ∧ ob_Fr (ob_3 p n a) t u := by
  obtain ⟨h1, h2, h3, h4, ⟨L0, h5⟩, -⟩ := h
  obtain ⟨u1, e1, b1, f1⟩ := x_By_become h5 hL hd hn2 (by rw [nb_len]; exact hl)
  have hp : ¬ (p = n ∨ p = a) := fun z => z.elim h3 h4
  have g1 : ob_is u1 p 3 := ⟨by rw [f1.1]; exact h1.1, by rw [f1.2.1]; exact h1.2⟩
  have F : ob_Fr (fun q => q = p) u1 (ob_setI (ob_setI (ob_setI (ob_setI (ob_setI u1 p 1 (nI id)) p 2 1) p 3 4) p 4 4) p 5 0) := ((((ob_Fr.setI (P := fun q => q = p) rfl).tr (ob_Fr.setI (P := fun q => q = p) rfl)).tr (ob_Fr.setI (P := fun q => q = p) rfl)).tr (ob_Fr.setI (P := fun q => q = p) rfl)).tr (ob_Fr.setI (P := fun q => q = p) rfl)
  have b2 := b1.fr F h3.symm h4.symm
  refine ⟨ob_setI (ob_setI (ob_setI (ob_setI (ob_setI u1 p 1 (nI id)) p 2 1) p 3 4) p 4 4) p 5 0, ?_, ⟨g1, (show ob_r u1 p 0 = some n by rw [(f1.2.2.2 p hp).2]; exact h2), h3, h4, ⟨_, b2⟩, ?_⟩, (f1.mono (fun q z => Or.inr z)).tr (F.mono (fun q z => Or.inl z))⟩
  · rw [X_Pe_start, ob_this_e h1, ob_b_e (ob_gR_e h1 h2), ob_b_e e1, ob_b_e (ob_pI_e g1), ob_b_e (ob_pZ_e (t := ob_setI u1 p 1 (nI id)) g1 (Or.inr rfl)), ob_b_e (ob_pI_e (t := ob_setI (ob_setI u1 p 1 (nI id)) p 2 1) g1), ob_b_e (ob_pI_e (t := ob_setI (ob_setI (ob_setI u1 p 1 (nI id)) p 2 1) p 3 4) g1), ob_b_e (ob_pI_e (t := ob_setI (ob_setI (ob_setI (ob_setI u1 p 1 (nI id)) p 2 1) p 3 4) p 4 4) g1)]
  · dsimp only
    refine ⟨?_, ?_, ?_, ?_, ?_, b2, ⟨hid, ⟨(show 1 ≤ 4 by decide), (show 4 ≤ 1000 by decide)⟩, (show 0 ≤ 3 by decide), (show 4 ≤ 4 * 2 ^ 0 by decide), (show 1 ≤ 4 by decide), hl⟩⟩
    · rw [ob_i_k (by decide), ob_i_k (by decide), ob_i_k (by decide), ob_i_self]
    · rw [ob_i_k (by decide), ob_i_k (by decide), ob_i_k (by decide), ob_i_k (by decide), ob_i_self]
    · rw [ob_i_k (by decide), ob_i_k (by decide), ob_i_self]; rfl
    · rw [ob_i_k (by decide), ob_i_self]; rfl
    · rw [ob_i_self]; rfl
/-- a tick: what is due (0 nothing, 1 send again, 2 given up), and what is left -/
def ap_pass (o : Option ap_P) : Nat × Option ap_P := match o with
  | none => (0, none)
  | some q => if 1 < q.2.1 then (0, some (q.1, q.2.1 - 1, q.2.2)) else if q.2.2.2.1 = 3 then (2, none) else (1, some (q.1, q.2.2.1 * 2, q.2.2.1 * 2, q.2.2.2.1 + 1, q.2.2.2.2))
theorem x_Pe_pass {t : ob_S} {p n a : Nat} {o : Option ap_P} (h : ob_Pe t p n a o) : ∃ u, X_Pe_pass p t = some (nI (ap_pass o).1, u) ∧ ob_Pe u p n a (ap_pass o).2 ∧ ob_Fr (ob_3 p n a) t u := by
  have hh := h
  obtain ⟨h1, h2, h3, h4, ⟨L, h5⟩, h6⟩ := h
  cases o with
  | none =>
    dsimp only at h6
    refine ⟨t, ?_, hh, ob_Fr.rf⟩
    rw [X_Pe_pass, ob_this_e h1, ob_b_e (ob_gI_e h1 h6), if_neg (fun z => z rfl)]; rfl
  | some q =>
    obtain ⟨id, left, span, rep, row⟩ := q
    dsimp only at h6
    obtain ⟨g1, g2, g3, g4, g5, g6, g7, ⟨g8, g8'⟩, g9, g10, g11, g12⟩ := h6
    dsimp only at g2 g3 g4 g5 g6 g7 g8 g8' g9 g10 g11 g12
    have el : nI left - 1 = nI (left - 1) := nb_sub (b := 1) g8
    have y1 : ob_is (ob_setI t p 3 (nI (left - 1))) p 3 := h1
    have F1 : ob_Fr (fun q => q = p) t (ob_setI t p 3 (nI (left - 1))) := ob_Fr.setI rfl
    have hspan : span ≤ 32 := by
      rcases (show rep = 0 ∨ rep = 1 ∨ rep = 2 ∨ rep = 3 by omega) with rfl | rfl | rfl | rfl <;> simp at g10 <;> omega
    by_cases c1 : 1 < left
    · refine ⟨ob_setI t p 3 (nI (left - 1)), ?_, ?_, F1.mono (fun q z => Or.inl z)⟩
      · rw [X_Pe_pass, ob_this_e h1, ob_b_e (ob_gI_e h1 g1), if_pos (by decide), ob_b_e (ob_gI_e h1 g3), el, ob_b_e (ob_pI_e h1), ob_b_e (ob_gI_e y1 ob_i_self), if_neg (nI_nle (by omega) (by omega)), ap_pass, if_pos c1]; rfl
      · rw [ap_pass, if_pos c1]
        refine ⟨h1, h2, h3, h4, ⟨L, h5.fr F1 h3.symm h4.symm⟩, ?_⟩
        dsimp only
        exact ⟨by rw [ob_i_k (by decide)]; exact g1, by rw [ob_i_k (by decide)]; exact g2, ob_i_self, by rw [ob_i_k (by decide)]; exact g4, by rw [ob_i_k (by decide)]; exact g5, g6.fr F1 h3.symm h4.symm, g7, ⟨by show 1 ≤ left - 1; omega, by show left - 1 ≤ 1000; omega⟩, g9, g10, g11, g12⟩
    · have hl0 : nI (left - 1) ≤ 0 := by rw [show left - 1 = 0 by omega]; decide
      have r5 : ob_i (ob_setI t p 3 (nI (left - 1))) p 5 = nI rep := by rw [ob_i_k (by decide)]; exact g5
      by_cases c2 : rep = 3
      · have F2 : ob_Fr (fun q => q = p) t (ob_setI (ob_setI t p 3 (nI (left - 1))) p 2 0) := F1.tr (ob_Fr.setI rfl)
        refine ⟨ob_setI (ob_setI t p 3 (nI (left - 1))) p 2 0, ?_, ?_, F2.mono (fun q z => Or.inl z)⟩
        · rw [X_Pe_pass, ob_this_e h1, ob_b_e (ob_gI_e h1 g1), if_pos (by decide), ob_b_e (ob_gI_e h1 g3), el, ob_b_e (ob_pI_e h1), ob_b_e (ob_gI_e y1 ob_i_self), if_pos hl0, ob_b_e (ob_gI_e y1 r5), c2, if_neg (fun z => z rfl), ob_b_e (ob_pZ_e y1 (Or.inl rfl)), ap_pass, if_neg c1]; rfl
        · rw [ap_pass, if_neg c1, if_pos c2]
          exact ⟨h1, h2, h3, h4, ⟨L, h5.fr F2 h3.symm h4.symm⟩, ob_i_self⟩
      · have z1 : ob_is (ob_setI (ob_setI t p 3 (nI (left - 1))) p 5 (nI (rep + 1))) p 3 := h1
        have z4 : ob_i (ob_setI (ob_setI t p 3 (nI (left - 1))) p 5 (nI (rep + 1))) p 4 = nI span := by rw [ob_i_k (by decide), ob_i_k (by decide)]; exact g4
        have es : nI span * 2 = nI (span * 2) := nb_mul span 2
        have w1 : ob_is (ob_setI (ob_setI (ob_setI t p 3 (nI (left - 1))) p 5 (nI (rep + 1))) p 4 (nI (span * 2))) p 3 := h1
        have F2 : ob_Fr (fun q => q = p) t (ob_setI (ob_setI (ob_setI (ob_setI t p 3 (nI (left - 1))) p 5 (nI (rep + 1))) p 4 (nI (span * 2))) p 3 (nI (span * 2))) := ((F1.tr (ob_Fr.setI rfl)).tr (ob_Fr.setI rfl)).tr (ob_Fr.setI rfl)
        refine ⟨_, ?_, ?_, F2.mono (fun q z => Or.inl z)⟩
        · rw [X_Pe_pass, ob_this_e h1, ob_b_e (ob_gI_e h1 g1), if_pos (by decide), ob_b_e (ob_gI_e h1 g3), el, ob_b_e (ob_pI_e h1), ob_b_e (ob_gI_e y1 ob_i_self), if_pos hl0, ob_b_e (ob_gI_e y1 r5), if_pos (show ¬ nI rep = (3 : Int32) from fun z => c2 ((nI_eq (a := rep) (b := 3) (by omega) (by omega)).mp z)), ob_b_e (ob_gI_e y1 r5), nI_1, ob_b_e (ob_pI_e y1), ob_b_e (ob_gI_e z1 z4), es, ob_b_e (ob_pI_e z1), ob_b_e (ob_gI_e w1 ob_i_self), ob_b_e (ob_pI_e w1), ap_pass, if_neg c1]
          rw [if_neg c2]
          rfl
        · rw [ap_pass, if_neg c1]
          rw [if_neg c2]
          refine ⟨h1, h2, h3, h4, ⟨L, h5.fr F2 h3.symm h4.symm⟩, ?_⟩
          dsimp only
          refine ⟨?_, ?_, ob_i_self, ?_, ?_, g6.fr F2 h3.symm h4.symm, g7, ⟨by show 1 ≤ span * 2; omega, by show span * 2 ≤ 1000; omega⟩, by show rep + 1 ≤ 3; omega, by show span * 2 ≤ 4 * 2 ^ (rep + 1); rw [Nat.pow_succ]; omega, by show 1 ≤ span * 2; omega, g12⟩
          · rw [ob_i_k (by decide), ob_i_k (by decide), ob_i_k (by decide), ob_i_k (by decide)]; exact g1
          · rw [ob_i_k (by decide), ob_i_k (by decide), ob_i_k (by decide), ob_i_k (by decide)]; exact g2
          · rw [ob_i_k (by decide), ob_i_self]
          · rw [ob_i_k (by decide), ob_i_k (by decide), ob_i_self]

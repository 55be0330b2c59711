/-! LAYER 2, 48: the reference's memory -/
theorem y_answerOf {t : ob_S} {MM : List am_A} (id : Int32) (hS : mo_sh t) (h : mo_Me t MM) : X_Mo_answerOf 103 id t = some (oI (am_ix id MM 0), t) := by
  have h4 := h.2.1
  have key : ∀ (K : List am_A) (i fu : Nat), MM.drop i = K → K.length < fu → i ≤ MM.length → B_Mo_answerOf_2 fu 103 id (nI i) t = some (oI (am_ix id K i), t) := by
    intro K
    induction K with
    | nil =>
      intro i fu hd hf hi
      obtain ⟨fu, rfl⟩ : ∃ g, fu = g + 1 := ⟨fu - 1, by simp at hf; omega⟩
      have : MM.length ≤ i := by
        have := congrArg List.length hd
        rw [List.length_drop] at this
        simp at this
        omega
      rw [B_Mo_answerOf_2, ob_b_e (mo_g hS), h.1, if_pos (nI_le this (by omega))]
      rfl
    | cons q K ih =>
      intro i fu hd hf hi
      obtain ⟨fu, rfl⟩ : ∃ g, fu = g + 1 := ⟨fu - 1, by simp at hf; omega⟩
      have hq : MM[i]? = some q := by
        have := congrArg (fun l => l[0]?) hd
        simpa [List.getElem?_drop] using this
      have hil := (List.getElem?_eq_some_iff.mp hq).1
      have hd2 : MM.drop (i + 1) = K := by
        have := congrArg List.tail hd
        simpa using this
      have e := (h.2.2 i q hq).1
      rw [B_Mo_answerOf_2, ob_b_e (mo_g hS), h.1, if_neg (nI_ge hil (by omega)), ob_b_e (mo_r40 hS), ob_b_e (mo_a136 hS (by omega)), e, nI_1, am_ix]
      by_cases c : q.1 = id
      · rw [if_neg (fun z => z c), if_pos c]
        rfl
      · rw [if_pos c, if_neg c]
        exact ih (i + 1) fu hd2 (by simp at hf; omega) (by omega)
  rw [X_Mo_answerOf, mo_this hS]
  exact key MM 0 ob_fu rfl (by show MM.length < 2000; omega) (by omega)
theorem y_copy64 (j i : Nat) : ((64 : Int32) * nI j + 64) + nI i = nI (64 * j + 64 + i) := by rw [show (64 : Int32) = nI 64 from rfl, pk_mul, nI_add, nI_add]
theorem y_forget56 {t : ob_S} {j : Nat} (k2 : Nat → Int32 → ob_S → Option ob_S) (hS : mo_sh t) (hj : j < 3) : ∃ u, B_Mo_forgetAnswer_56 k2 ob_fu 103 (nI j) 0 t = k2 103 (nI (j + 1)) u ∧ mo_F (fun n i => n = 138 ∧ 64 * j ≤ i ∧ i < 64 * j + 64) t u ∧ ∀ i, i < 64 → ob_i u 138 (64 * j + i) = ob_i t 138 (64 * j + 64 + i) := by
  obtain ⟨g, u, eu, fu, vu⟩ := mo_loop (G := fun fu i x => B_Mo_forgetAnswer_56 k2 fu 103 (nI j) i x) (dst := 138) (o := 64 * j) (n := 64) (val := fun i => ob_i t 138 (64 * j + 64 + i)) (t := t) (fun fu i u hi f => by
    have s1 : mo_sh u := hS.f f
    have e : ob_i u 138 (64 * j + 64 + i) = ob_i t 138 (64 * j + 64 + i) := f.2.2.2.2 _ _ (by omega)
    show B_Mo_forgetAnswer_56 k2 (fu + 1) 103 (nI j) (nI i) u = _
    rw [B_Mo_forgetAnswer_56, if_neg (show ¬ (64 : Int32) ≤ nI i from nI_ge (b := 64) hi (by omega)), ob_b_e (mo_r42 s1), ob_b_e (mo_r42 s1), y_copy64, ob_b_e (mo_a138 s1 (by omega)), mo_x64, ob_b_e (mo_w138 s1 (by omega)), nI_1, e]) ob_fu (by decide)
  refine ⟨u, ?_, fu, vu⟩
  refine Eq.trans eu ?_
  show B_Mo_forgetAnswer_56 k2 (g + 1) 103 (nI j) (nI 64) u = _
  rw [B_Mo_forgetAnswer_56, if_pos (show (64 : Int32) ≤ nI 64 by decide), nI_1]
theorem y_forget {t : ob_S} {MM : List am_A} {k : Nat} (hS : mo_sh t) (h : mo_Me t MM) (hk : k < MM.length) : ∃ u, X_Mo_forgetAnswer 103 (nI k) t = some u ∧ mo_Me u (MM.eraseIdx k) ∧ mo_F dMe t u := by
  have h4 := h.2.1
  have key : ∀ d j fu u, j + d + 1 = MM.length → k ≤ j → d < fu → mo_F dMe t u → ob_i u 103 39 = nI MM.length → (∀ i q, i < j → (MM.eraseIdx k)[i]? = some q → mo_an u i q) → (∀ i q, j ≤ i → MM[i]? = some q → mo_an u i q) → ∃ w, B_Mo_forgetAnswer_2 fu 103 (nI j) u = some w ∧ mo_Me w (MM.eraseIdx k) ∧ mo_F dMe t w := by
    intro d
    induction d with
    | zero =>
      intro j fu u hj hkj hf f e39 h1 h2
      obtain ⟨fu, rfl⟩ : ∃ g, fu = g + 1 := ⟨fu - 1, by omega⟩
      have s1 := hS.f f
      have f1 : mo_F (fun n i => n = 103 ∧ i = 39) u (ob_setI u 103 39 (nI (MM.length - 1))) := mo_F.o ⟨rfl, rfl⟩
      have el : (MM.eraseIdx k).length = MM.length - 1 := by rw [List.length_eraseIdx, if_pos hk]
      refine ⟨ob_setI u 103 39 (nI (MM.length - 1)), ?_, ⟨by rw [ob_i_self, el], by omega, fun i q e => ?_⟩, f.s (by omega)⟩
      · rw [B_Mo_forgetAnswer_2, ob_b_e (mo_g s1), e39, nI_1, if_pos (nI_le (by omega) (by omega)), ob_b_e (mo_g s1), e39, ob_b_e (mo_p s1), show nI MM.length - 1 = nI (MM.length - 1) from nb_sub (b := 1) (by omega)]
      · have hi := (List.getElem?_eq_some_iff.mp e).1
        exact (h1 i q (by omega) e).f f1 (fun n x a b => by omega)
    | succ d ih =>
      intro j fu u hj hkj hf f e39 h1 h2
      obtain ⟨fu, rfl⟩ : ∃ g, fu = g + 1 := ⟨fu - 1, by omega⟩
      have s1 := hS.f f
      have hj1 : j + 1 < MM.length := by omega
      obtain ⟨T, hT⟩ : ∃ T, T = ob_setI (ob_setI (ob_setI u 136 j (ob_i u 136 (j + 1))) 137 j (ob_i u 137 (j + 1))) 139 j (ob_i u 139 (j + 1)) := ⟨_, rfl⟩
      have fT : mo_F (fun n i => (n = 136 ∨ n = 137 ∨ n = 139) ∧ i = j) u T := by
        rw [hT]
        exact ((mo_F.o (by omega)).s (by omega)).s (by omega)
      have sT := s1.f fT
      obtain ⟨w, ew, fw, vw⟩ := y_forget56 (B_Mo_forgetAnswer_2 fu) sT (j := j) (by omega)
      have fuw : mo_F (fun n i => ((n = 136 ∨ n = 137 ∨ n = 139) ∧ i = j) ∨ (n = 138 ∧ 64 * j ≤ i ∧ i < 64 * j + 64)) u w := (fT.mono (fun n i z => Or.inl z)).tr (fw.mono (fun n i z => Or.inr z))
      have moved : ∀ q, MM[j + 1]? = some q → mo_an w j q := fun q e => by
        obtain ⟨a1, a2, a3, a4, a5, a6⟩ := h2 (j + 1) q (by omega) e
        refine ⟨?_, ?_, ?_, fun i hi => ?_, a5, a6⟩
        · rw [fw.2.2.2.2 _ _ (by omega), hT, ob_i_n (by omega), ob_i_n (by omega), ob_i_self, a1]
        · rw [fw.2.2.2.2 _ _ (by omega), hT, ob_i_n (by omega), ob_i_self, a2]
        · rw [fw.2.2.2.2 _ _ (by omega), hT, ob_i_self, a3]
        · rw [vw i (by omega), fT.2.2.2.2 _ _ (by omega)]
          have := a4 i hi
          rwa [show 64 * (j + 1) + i = 64 * j + 64 + i by omega] at this
      obtain ⟨x, ex, q⟩ := ih (j + 1) fu w (by omega) (by omega) (by omega) (f.tr (fuw.mono (fun n i z => by omega))) ((fuw.2.2.2.2 _ _ (by omega)).trans e39) (fun i q hi e => by
        by_cases c : i = j
        · subst c
          rw [List.getElem?_eraseIdx, if_neg (by omega)] at e
          exact moved q e
        · exact (h1 i q (by omega) e).f fuw (fun n x a b => by omega)) (fun i q hi e => (h2 i q (by omega) e).f fuw (fun n x a b => by omega))
      refine ⟨x, ?_, q⟩
      rw [← ex, ← ew]
      have e137 : ob_i (ob_setI u 136 j (ob_i u 136 (j + 1))) 137 (j + 1) = ob_i u 137 (j + 1) := ob_i_n (by omega)
      have e139 : ob_i (ob_setI (ob_setI u 136 j (ob_i u 136 (j + 1))) 137 j (ob_i u 137 (j + 1))) 139 (j + 1) = ob_i u 139 (j + 1) := by rw [ob_i_n (by omega), ob_i_n (by omega)]
      rw [B_Mo_forgetAnswer_2, ob_b_e (mo_g s1), e39, nI_1, if_neg (nI_ge hj1 (by omega)), ob_b_e (mo_r40 s1), ob_b_e (mo_r40 s1), ob_b_e (mo_a136 s1 (by omega)), ob_b_e (mo_w136 s1 (by omega)), ob_b_e (mo_r41 (t := ob_setI u 136 j (ob_i u 136 (j + 1))) s1), ob_b_e (mo_r41 (t := ob_setI u 136 j (ob_i u 136 (j + 1))) s1), ob_b_e (mo_a137 (t := ob_setI u 136 j (ob_i u 136 (j + 1))) s1 (by omega)), e137, ob_b_e (mo_w137 (t := ob_setI u 136 j (ob_i u 136 (j + 1))) s1 (by omega)), ob_b_e (mo_r43 (t := ob_setI (ob_setI u 136 j (ob_i u 136 (j + 1))) 137 j (ob_i u 137 (j + 1))) s1), ob_b_e (mo_r43 (t := ob_setI (ob_setI u 136 j (ob_i u 136 (j + 1))) 137 j (ob_i u 137 (j + 1))) s1), ob_b_e (mo_a139 (t := ob_setI (ob_setI u 136 j (ob_i u 136 (j + 1))) 137 j (ob_i u 137 (j + 1))) s1 (by omega)), e139, ob_b_e (mo_w139 (t := ob_setI (ob_setI u 136 j (ob_i u 136 (j + 1))) 137 j (ob_i u 137 (j + 1))) s1 (by omega)), ← hT]
  rw [X_Mo_forgetAnswer, mo_this hS]
  exact key (MM.length - k - 1) k ob_fu t (by omega) (by omega) (by show _ < 2000; omega) mo_F.rf h.1 (fun i q hi e => by
    rw [List.getElem?_eraseIdx, if_pos hi] at e
    exact h.2.2 i q e) (fun i q _ e => h.2.2 i q e)
/-- an answer is written behind the others -/
theorem y_rem31 {t : ob_S} {MM : List am_A} {K : List Nat} {id last : Nat} {now : Int32} (h : mo_Me t MM) (o : mo_Out t K last) (hl : K.length ≤ 48) (hM : MM.length < 4) (e51 : ob_i t 103 51 = nI id) (e4 : ob_i t 103 4 = now) : ∃ u, B_Mo_remember_31 103 t = some u ∧ mo_Me u (MM ++ [(nI id, now, K)]) ∧ mo_F dMe t u := by
  have hS := o.1
  have e45 := o.2.1
  obtain ⟨T, hT⟩ : ∃ T, T = ob_setI (ob_setI (ob_setI t 136 MM.length (nI id)) 137 MM.length now) 139 MM.length (nI K.length) := ⟨_, rfl⟩
  have fT : mo_F (fun n i => (n = 136 ∨ n = 137 ∨ n = 139) ∧ i = MM.length) t T := by
    rw [hT]
    exact ((mo_F.o (by omega)).s (by omega)).s (by omega)
  have sT := hS.f fT
  have oT := o.f fT (fun n j a b => by omega)
  have t39 : ob_i T 103 39 = nI MM.length := (fT.2.2.2.2 _ _ (by omega)).trans h.1
  obtain ⟨g, u, eu, fu, vu⟩ := mo_loop (G := fun fu i x => B_Mo_remember_72 fu 103 i x) (dst := 138) (o := 64 * MM.length) (n := K.length) (val := fun i => nI (K.getD i 0)) (t := T) (fun fu i u hi f => by
    have s1 : mo_sh u := sT.f f
    have a45 : ob_i u 103 45 = nI K.length := (f.2.2.2.2 _ _ (by omega)).trans oT.2.1
    have a39 : ob_i u 103 39 = nI MM.length := (f.2.2.2.2 _ _ (by omega)).trans t39
    have a140 : ob_i u 140 i = nI (K.getD i 0) := by
      rw [f.2.2.2.2 _ _ (by omega)]
      have := oT.2.2.2.2.1 i hi
      rwa [Nat.zero_add] at this
    show B_Mo_remember_72 (fu + 1) 103 (nI i) u = _
    rw [B_Mo_remember_72, ob_b_e (mo_g s1), a45, if_neg (nI_ge hi (by omega)), ob_b_e (mo_r42 s1), ob_b_e (mo_g s1), a39, ob_b_e (mo_r44 s1), ob_b_e (mo_a140 s1 (by omega)), a140, mo_x64, ob_b_e (mo_w138 s1 (by omega)), nI_1]) ob_fu (by show K.length < 2000; omega)
  have s1 := sT.f fu
  have a45 : ob_i u 103 45 = nI K.length := (fu.2.2.2.2 _ _ (by omega)).trans oT.2.1
  have a39 : ob_i u 103 39 = nI MM.length := (fu.2.2.2.2 _ _ (by omega)).trans t39
  have ftu : mo_F (fun n i => ((n = 136 ∨ n = 137 ∨ n = 139) ∧ i = MM.length) ∨ (n = 138 ∧ 64 * MM.length ≤ i ∧ i < 64 * MM.length + 64)) t u := (fT.mono (fun n i z => Or.inl z)).tr (fu.mono (fun n i z => by omega))
  have f3 : mo_F (fun n i => n = 103 ∧ i = 39) u (ob_setI u 103 39 (nI (MM.length + 1))) := mo_F.o ⟨rfl, rfl⟩
  refine ⟨ob_setI u 103 39 (nI (MM.length + 1)), ?_, ⟨by rw [ob_i_self, List.length_append]; rfl, by rw [List.length_append]; simp only [List.length_cons, List.length_nil]; omega, fun i q e => ?_⟩, (ftu.mono (fun n i z => by omega)).tr (f3.mono (fun n i z => by omega))⟩
  · have b39 : ob_i (ob_setI t 136 MM.length (nI id)) 103 39 = nI MM.length := by rw [ob_i_n (by omega)]; exact h.1
    have b4 : ob_i (ob_setI t 136 MM.length (nI id)) 103 4 = now := by rw [ob_i_n (by omega)]; exact e4
    have c39 : ob_i (ob_setI (ob_setI t 136 MM.length (nI id)) 137 MM.length now) 103 39 = nI MM.length := by rw [ob_i_n (by omega)]; exact b39
    have c45 : ob_i (ob_setI (ob_setI t 136 MM.length (nI id)) 137 MM.length now) 103 45 = nI K.length := by rw [ob_i_n (by omega), ob_i_n (by omega)]; exact e45
    rw [B_Mo_remember_31, ob_b_e (mo_r40 hS), ob_b_e (mo_g hS), h.1, ob_b_e (mo_g hS), e51, ob_b_e (mo_w136 hS (by omega)), ob_b_e (mo_r41 (t := ob_setI t 136 MM.length (nI id)) hS), ob_b_e (mo_g (t := ob_setI t 136 MM.length (nI id)) hS), b39, ob_b_e (mo_g (t := ob_setI t 136 MM.length (nI id)) hS), b4, ob_b_e (mo_w137 (t := ob_setI t 136 MM.length (nI id)) hS (by omega)), ob_b_e (mo_r43 (t := ob_setI (ob_setI t 136 MM.length (nI id)) 137 MM.length now) hS), ob_b_e (mo_g (t := ob_setI (ob_setI t 136 MM.length (nI id)) 137 MM.length now) hS), c39, ob_b_e (mo_g (t := ob_setI (ob_setI t 136 MM.length (nI id)) 137 MM.length now) hS), c45, ob_b_e (mo_w139 (t := ob_setI (ob_setI t 136 MM.length (nI id)) 137 MM.length now) hS (by omega)), ← hT]
    refine Eq.trans eu ?_
    show B_Mo_remember_72 (g + 1) 103 (nI K.length) u = _
    rw [B_Mo_remember_72, ob_b_e (mo_g s1), a45, if_pos (nI_le (Nat.le_refl _) (by omega)), ob_b_e (mo_g s1), a39, nI_1, ob_b_e (mo_p s1)]
  · by_cases c : i < MM.length
    · rw [List.getElem?_append_left c] at e
      exact ((h.2.2 i q e).f ftu (fun n x a b => by omega)).f f3 (fun n x a b => by omega)
    · have hi := (List.getElem?_eq_some_iff.mp e).1
      rw [List.length_append] at hi
      simp only [List.length_cons, List.length_nil] at hi
      have hi : i = MM.length := by omega
      subst hi
      rw [List.getElem?_append_right (Nat.le_refl _), Nat.sub_self] at e
      have e : (nI id, now, K) = q := by simpa using e
      subst e
      refine mo_an.f (t := u) ⟨?_, ?_, ?_, ?_, hl, o.2.2.2.2.2⟩ f3 (fun n x a b => by omega)
      · rw [fu.2.2.2.2 _ _ (by omega), hT, ob_i_n (by omega), ob_i_n (by omega), ob_i_self]
      · rw [fu.2.2.2.2 _ _ (by omega), hT, ob_i_n (by omega), ob_i_self]
      · rw [fu.2.2.2.2 _ _ (by omega), hT, ob_i_self]
      · exact vu
theorem y_remember {t : ob_S} {MM : List am_A} {K : List Nat} {id last : Nat} {now : Int32} (h : mo_Me t MM) (o : mo_Out t K last) (hl : K.length ≤ 48) (e51 : ob_i t 103 51 = nI id) (e4 : ob_i t 103 4 = now) : ∃ u, X_Mo_remember 103 t = some u ∧ mo_Me u (am_keep MM (nI id) now K) ∧ mo_F dMe t u := by
  have hS := o.1
  have e18 : ∀ (u : ob_S) (M : List am_A), mo_F dMe t u → mo_Me u M → ∃ w, B_Mo_remember_18 103 u = some w ∧ mo_Me w ((if M.length = 4 then M.eraseIdx 0 else M) ++ [(nI id, now, K)]) ∧ mo_F dMe t w := by
    intro u M f hM
    have s1 := hS.f f
    have ou := o.f f (fun n j a b => by omega)
    have u51 : ob_i u 103 51 = nI id := (f.2.2.2.2 _ _ (by omega)).trans e51
    have u4 : ob_i u 103 4 = now := (f.2.2.2.2 _ _ (by omega)).trans e4
    have hM4 := hM.2.1
    rw [B_Mo_remember_18, ob_b_e (mo_g s1), hM.1]
    by_cases c : M.length = 4
    · rw [if_neg (show ¬ ¬ nI M.length = (4 : Int32) from fun z => z (by rw [c]; rfl)), if_pos c]
      obtain ⟨w, ew, mw, fw⟩ := y_forget (k := 0) s1 hM (by omega)
      obtain ⟨x, ex, mx, fx⟩ := y_rem31 (id := id) (now := now) mw (ou.f fw (fun n j a b => by omega)) hl (by rw [List.length_eraseIdx, if_pos (by omega)]; omega) ((fw.2.2.2.2 _ _ (by omega)).trans u51) ((fw.2.2.2.2 _ _ (by omega)).trans u4)
      exact ⟨x, by rw [ob_b_e (show X_Mo_forgetAnswer 103 0 u = some w from ew)]; exact ex, mx, (f.tr fw).tr fx⟩
    · rw [if_pos (show ¬ nI M.length = (4 : Int32) from fun z => c ((nI_eq (b := 4) (by omega) (by omega)).mp z)), if_neg c]
      obtain ⟨x, ex, mx, fx⟩ := y_rem31 (id := id) (now := now) hM ou hl (by omega) u51 u4
      exact ⟨x, ex, mx, f.tr fx⟩
  rw [X_Mo_remember, mo_this hS, ob_b_e (mo_g hS), e51, ob_b2_e (y_answerOf (nI id) hS h), am_keep]
  have h4 := h.2.1
  cases hi : am_ix (nI id) MM 0 with
  | none =>
    rw [if_pos (show oI none < 0 by decide), am_1, hi]
    exact e18 t MM mo_F.rf h
  | some k =>
    have hk := (am_ix_lt hi).2
    rw [if_neg (show ¬ oI (some k) < 0 from nI_nlt (b := 0) (by omega) (by omega)), am_1, hi]
    obtain ⟨w, ew, mw, fw⟩ := y_forget (k := k) hS h (by omega)
    rw [ob_b_e (show X_Mo_forgetAnswer 103 (oI (some k)) t = some w from ew)]
    exact e18 w _ fw mw

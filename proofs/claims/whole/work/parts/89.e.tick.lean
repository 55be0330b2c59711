/-! LAYER 2, 53: the reference: tick -/
theorem mo_same {t : ob_S} {n k : Nat} {x : Int32} (h : ob_i t n k = x) : mo_F (fun _ _ => False) t (ob_setI t n k x) := ⟨rfl, rfl, rfl, rfl, fun q j _ => by
  rw [mo_is]
  by_cases c : q = n ∧ j = k
  · rw [if_pos c, c.1, c.2, h]
  · rw [if_neg c]⟩
/-- a free slot has nothing under way -/
def cl_fr (c : cl_S) : Prop := ∀ k, c.1 k 2 = 0 → c.2.2.1 k = none
theorem ap_pass_ok {q r : ap_P} (h : ap_ok q) (e : (ap_pass (some q)).2 = some r) : ap_ok r ∧ r.2.2.2.2 = q.2.2.2.2 := by
  obtain ⟨h1, h2, h3, h4, h5, h6⟩ := h
  unfold ap_pass at e
  dsimp only at e
  by_cases c : 1 < q.2.1
  · rw [if_pos c] at e
    cases e
    exact ⟨⟨h1, ⟨by show 1 ≤ q.2.1 - 1; omega, by show q.2.1 - 1 ≤ 1000; omega⟩, h3, h4, h5, h6⟩, rfl⟩
  · rw [if_neg c] at e
    by_cases d : q.2.2.2.1 = 3
    · rw [if_pos d] at e; cases e
    · rw [if_neg d] at e
      cases e
      have hp : 2 ^ q.2.2.2.1 ≤ 2 ^ 2 := Nat.pow_le_pow_right (by omega) (by omega)
      refine ⟨⟨h1, ⟨?_, ?_⟩, ?_, ?_, ?_, h6⟩, rfl⟩
      · show 1 ≤ q.2.2.1 * 2; omega
      · show q.2.2.1 * 2 ≤ 1000; omega
      · show q.2.2.2.1 + 1 ≤ 3; omega
      · show q.2.2.1 * 2 ≤ 4 * 2 ^ (q.2.2.2.1 + 1)
        rw [Nat.pow_succ]
        omega
      · show 1 ≤ q.2.2.1 * 2; omega
theorem y_sendAgain2 {t : ob_S} {LL : List (List Nat × Nat)} {K : List Nat} {p : Nat} (h : mo_sh t) (hL : mo_Li t LL) (hp : p < 4) (h6 : ob_i t 113 p = nI K.length) (h7 : mo_rw t 112 (64 * p) K) (hl : K.length ≤ 48) (h9 : ∀ x ∈ K, x < 256) : ∃ u, X_Mo_sendAgain 103 (nI p) t = some u ∧ mo_Li u (af_send LL K (if p < 2 then 1 else 0)) ∧ mo_F dWL t u := by
  obtain ⟨g, u, last, eu, ou, f⟩ := mo_lay (G := fun fu i s => B_Mo_sendAgain_12 fu 103 (nI p) i s) h hl h9 (fun fu i u hi f => by
    have s1 : mo_sh u := mo_sh.f (t := ob_setI t 103 45 (nI K.length)) h f
    have e45 : ob_i u 103 45 = nI K.length := (f.2.2.2.2 _ _ (by omega)).trans (by simp [mo_is])
    have e112 : ob_i u 112 (64 * p + i) = nI (K.getD i 0) := (f.2.2.2.2 _ _ (by omega)).trans (by rw [mo_is, if_neg (by omega)]; exact h7 i hi)
    show B_Mo_sendAgain_12 (fu + 1) 103 (nI p) (nI i) u = _
    rw [B_Mo_sendAgain_12, ob_b_e (mo_g s1), e45, if_neg (nI_ge hi (by omega)), ob_b_e (mo_r44 s1), ob_b_e (mo_r12 s1), mo_x64, ob_b_e (mo_a112 s1 (by omega)), e112, ob_b_e (mo_w140 s1 (by omega)), nI_1, Nat.zero_add])
  have s1 := ou.1
  have e45 := ou.2.1
  obtain ⟨w, ew, lw, fw⟩ := y_send (if p < 2 then 1 else 0) (hL.f f (fun n j a b => by omega)) ou rfl (by split <;> omega) hl
  refine ⟨w, ?_, lw, f.then fw (fun n j z => Or.inl z) (fun n j z => Or.inr z)⟩
  rw [X_Mo_sendAgain, mo_this h, ob_b_e (mo_r13 h), ob_b_e (mo_a113 h hp), h6, ob_b_e (mo_p h)]
  refine Eq.trans eu ?_
  show B_Mo_sendAgain_12 (g + 1) 103 (nI p) (nI K.length) u = _
  rw [B_Mo_sendAgain_12, ob_b_e (mo_g s1), e45, if_pos (nI_le (Nat.le_refl _) (by omega))]
  by_cases c : p < 2
  · rw [if_pos c] at ew
    rw [if_neg (show ¬ (2 : Int32) ≤ nI p from nI_ge (b := 2) c (by omega)), B_Mo_sendAgain_54, show (1 : Int32) = nI 1 from rfl, ob_b_e ew]
  · rw [if_neg c] at ew
    rw [if_pos (show (2 : Int32) ≤ nI p from nI_le (a := 2) (by omega) (by omega)), B_Mo_sendAgain_54, show (0 : Int32) = nI 0 from rfl, ob_b_e ew]
section YTK
variable {t u : ob_S} {s : st_S} {c : cl_S} {v : sv_S}
theorem y_wears {p : Nat} {o : Option ap_P} {LL : List (List Nat × Nat)} (hS : mo_sh t) (hp : mo_Pe t p o) (hL : mo_Li t LL) (hp4 : p < 4) : ∃ u, X_Mo_wears 103 (nI p) t = some (if (ap_pass o).1 = 2 then 1 else 0, u) ∧ mo_Pe u p (ap_pass o).2 ∧ mo_Li u (if (ap_pass o).1 = 1 then af_send LL (((ap_pass o).2.map (fun q => q.2.2.2.2)).getD []) (if p < 2 then 1 else 0) else LL) ∧ mo_F (fun n j => dP p n j ∨ dWL n j) t u := by
  have e107 := hp.act
  rw [X_Mo_wears, mo_this hS, ob_b_e (mo_r7 hS), ob_b_e (mo_a107 hS hp4), e107]
  cases o with
  | none =>
    rw [if_neg (show ¬ ¬ nI (if (none : Option ap_P) = none then 0 else 1) = 0 from fun z => z rfl)]
    exact ⟨t, rfl, hp, hL, mo_F.rf⟩
  | some q =>
    have hp0 := hp
    obtain ⟨p1, p2, p3, p4, p5, p6, p7, p8, p9⟩ := hp
    have q1 := p8.2.1
    have q3 := p8.2.2.1
    have q4 := p8.2.2.2.1
    have hp2 : 2 ^ q.2.2.2.1 ≤ 2 ^ 3 := Nat.pow_le_pow_right (by omega) (by omega)
    rw [if_pos (show ¬ nI (if (some q : Option ap_P) = none then 0 else 1) = 0 by rw [if_neg (fun z => by cases z)]; decide)]
    obtain ⟨T, hT⟩ : ∃ T, T = ob_setI t 109 p (nI (q.2.1 - 1)) := ⟨_, rfl⟩
    have fT : mo_F (fun n j => n = 109 ∧ j = p) t T := by
      rw [hT]
      exact mo_F.o ⟨rfl, rfl⟩
    have sT := hS.f fT
    have t109 : ob_i T 109 p = nI (q.2.1 - 1) := by rw [hT, ob_i_self]
    have t111 : ob_i T 111 p = nI q.2.2.2.1 := (fT.2.2.2.2 _ _ (by omega)).trans p5
    rw [ob_b_e (mo_r9 hS), ob_b_e (mo_a109 hS hp4), p3, show nI q.2.1 - 1 = nI (q.2.1 - 1) from nb_sub (b := 1) (by omega), ob_b_e (mo_w109 hS hp4), ← hT, ob_b_e (mo_r9 sT), ob_b_e (mo_a109 sT hp4), t109]
    have ePs : ap_pass (some q) = if 1 < q.2.1 then (0, some (q.1, q.2.1 - 1, q.2.2)) else if q.2.2.2.1 = 3 then (2, none) else (1, some (q.1, q.2.2.1 * 2, q.2.2.1 * 2, q.2.2.2.1 + 1, q.2.2.2.2)) := rfl
    have pT : mo_Pe T p (some (q.1, q.2.1 - 1, q.2.2)) ∨ q.2.1 ≤ 1 := by
      by_cases c : 1 < q.2.1
      · refine Or.inl ⟨(fT.2.2.2.2 _ _ (by omega)).trans p1, (fT.2.2.2.2 _ _ (by omega)).trans p2, t109, (fT.2.2.2.2 _ _ (by omega)).trans p4, t111, (fT.2.2.2.2 _ _ (by omega)).trans p6, p7.f fT (fun j _ _ => by omega), ?_, p9⟩
        exact ⟨p8.1, ⟨by show 1 ≤ q.2.1 - 1; omega, by show q.2.1 - 1 ≤ 1000; omega⟩, p8.2.2⟩
      · exact Or.inr (by omega)
    by_cases c : 1 < q.2.1
    · rw [if_neg (show ¬ nI (q.2.1 - 1) ≤ 0 from nI_nle (by omega) (by omega)), ePs, if_pos c]
      exact ⟨T, rfl, pT.resolve_right (by omega), hL.f fT (fun n j a b => by omega), fT.mono (fun n j z => Or.inl (by omega))⟩
    · rw [if_pos (show nI (q.2.1 - 1) ≤ 0 from nI_le (b := 0) (by omega) (by omega)), ob_b_e (mo_r11 sT), ob_b_e (mo_a111 sT hp4), t111, ePs, if_neg c]
      by_cases d : q.2.2.2.1 = 3
      · rw [if_neg (show ¬ ¬ nI q.2.2.2.1 = (3 : Int32) from fun z => z (by rw [d]; rfl)), if_pos d, ob_b_e (mo_r7 sT), ob_b_e (mo_w107 sT hp4 (Or.inl rfl))]
        have f2 : mo_F (fun n j => (n = 109 ∨ n = 107) ∧ j = p) t (ob_setI T 107 p 0) := (fT.mono (fun n j z => by omega)).s (by omega)
        exact ⟨_, rfl, ob_i_self, hL.f f2 (fun n j a b => by omega), f2.mono (fun n j z => Or.inl (by omega))⟩
      · rw [if_pos (show ¬ nI q.2.2.2.1 = (3 : Int32) from fun z => d ((nI_eq (b := 3) (by omega) (by omega)).mp z)), if_neg d]
        obtain ⟨u, eu, lu, fu⟩ := y_sendAgain2 sT (hL.f fT (fun n j a b => by omega)) hp4 ((fT.2.2.2.2 _ _ (by omega)).trans p6) (p7.f fT (fun j _ _ => by omega)) p8.2.2.2.2.2 p9
        have su := sT.f fu
        have u111 : ob_i u 111 p = nI q.2.2.2.1 := (fu.2.2.2.2 _ _ (by omega)).trans t111
        have u110 : ob_i u 110 p = nI q.2.2.1 := (fu.2.2.2.2 _ _ (by omega)).trans ((fT.2.2.2.2 _ _ (by omega)).trans p4)
        obtain ⟨U, hU⟩ : ∃ U, U = ob_setI (ob_setI (ob_setI u 111 p (nI (q.2.2.2.1 + 1))) 110 p (nI (2 * q.2.2.1))) 109 p (nI (2 * q.2.2.1)) := ⟨_, rfl⟩
        have fU : mo_F (fun n j => (n = 109 ∨ n = 110 ∨ n = 111) ∧ j = p) u U := by
          rw [hU]
          exact ((mo_F.o (by omega)).s (by omega)).s (by omega)
        have s1 : mo_sh (ob_setI u 111 p (nI (q.2.2.2.1 + 1))) := su
        have s2 : mo_sh (ob_setI (ob_setI u 111 p (nI (q.2.2.2.1 + 1))) 110 p (nI (2 * q.2.2.1))) := s1
        have a110 : ob_i (ob_setI u 111 p (nI (q.2.2.2.1 + 1))) 110 p = nI q.2.2.1 := by rw [ob_i_n (by omega)]; exact u110
        have x2 : (2 : Int32) * nI q.2.2.1 = nI (2 * q.2.2.1) := by rw [show (2 : Int32) = nI 2 from rfl, pk_mul]
        have ftu : mo_F (fun n j => dWL n j ∨ (n = 109 ∧ j = p)) t u := (fT.mono (fun n j z => Or.inr z)).tr (fu.mono (fun n j z => Or.inl z))
        have g : ∀ n j, ¬ dWL n j → ¬ (109 ≤ n ∧ n ≤ 111 ∧ j = p) → ob_i U n j = ob_i t n j := fun n j z1 z2 => by
          rw [fU.2.2.2.2 _ _ (by omega), ftu.2.2.2.2 _ _ (fun z => by
            rcases z with z | z
            · exact z1 z
            · omega)]
        have ok := ap_pass_ok (q := q) (r := (q.1, q.2.2.1 * 2, q.2.2.1 * 2, q.2.2.2.1 + 1, q.2.2.2.2)) p8 (by rw [ePs, if_neg c, if_neg d])
        refine ⟨U, ?_, ⟨?_, ?_, ?_, ?_, ?_, ?_, fun i hi => ?_, ok.1, p9⟩, lu.f fU (fun n j a b => by omega), (ftu.mono (fun n j z => ?_)).tr (fU.mono (fun n j z => Or.inl (by omega)))⟩
        · rw [ob_b_e eu, ob_b_e (mo_r11 su), ob_b_e (mo_a111 su hp4), u111, nI_1, ob_b_e (mo_w111 su hp4), ob_b_e (mo_r10 s1), ob_b_e (mo_r10 s1), ob_b_e (mo_a110 s1 hp4), a110, x2, ob_b_e (mo_w110 s1 hp4), ob_b_e (mo_r9 s2), ob_b_e (mo_r10 s2), ob_b_e (mo_a110 s2 hp4), ob_i_self, ob_b_e (mo_w109 s2 hp4), ← hU]
          rfl
        · rw [g _ _ (by omega) (by omega)]; exact p1
        · rw [g _ _ (by omega) (by omega)]; exact p2
        · show ob_i U 109 p = nI (q.2.2.1 * 2)
          rw [hU, ob_i_self, Nat.mul_comm]
        · show ob_i U 110 p = nI (q.2.2.1 * 2)
          rw [hU, ob_i_n (by omega), ob_i_self, Nat.mul_comm]
        · show ob_i U 111 p = nI (q.2.2.2.1 + 1)
          rw [hU, ob_i_n (by omega), ob_i_n (by omega), ob_i_self]
        · rw [g _ _ (by omega) (by omega)]; exact p6
        · rw [g _ _ (by omega) (by omega)]; exact p7 i hi
        · rcases z with z | z
          · exact Or.inr z
          · exact Or.inl (by omega)
/-- time passes for slot k -/
theorem y_passS {k fu : Nat} (hS : mo_sh t) (h : mo_Ci t c) (hf : cl_fr c) (hk : k < 2) : ∃ u, B_Mo_tick_12 (fu + 1) 103 (nI k) t = B_Mo_tick_12 fu 103 (nI (k + 1)) u ∧ mo_Ci u (cl_passS c k) ∧ mo_F dCl t u := by
  obtain ⟨u, eu, pu, lu, fu'⟩ := y_wears hS (h.1 k hk).2 h.2.2 (show k < 4 by omega)
  have su := hS.f fu'
  have dd : ∀ n j, dP k n j ∨ dWL n j → dCl n j := fun n j z => by
    rcases z with z | z | z
    · exact Or.inr (Or.inr (by omega))
    · exact Or.inl z
    · exact Or.inr (Or.inl z)
  have fC : mo_F dCl t u := fu'.mono dd
  have slu : mo_Sl u k (c.1 k) (c.2.1 k) := (h.1 k hk).1.f fu' (fun n j a b => by rcases b with b | b | b <;> omega)
  have e114 := slu.g.1
  have ci : mo_Ci u (va_up c.1 k (c.1 k), c.2.1, va_up c.2.2.1 k (ap_pass (c.2.2.1 k)).2, c.2.2.2.1, if (ap_pass (c.2.2.1 k)).1 = 1 then af_send c.2.2.2.2 (((ap_pass (c.2.2.1 k)).2.map (fun q => q.2.2.2.2)).getD []) 1 else c.2.2.2.2) := by
    refine ⟨fun j hj => ?_, ⟨(fu'.2.2.2.2 _ _ (by omega)).trans h.2.1.1, h.2.1.2⟩, by rw [if_pos hk] at lu; exact lu⟩
    by_cases e : j = k
    · subst e
      show mo_Sl u j (va_up c.1 j (c.1 j) j) (c.2.1 j) ∧ mo_Pe u j (va_up c.2.2.1 j (ap_pass (c.2.2.1 j)).2 j)
      rw [va_up_self, va_up_self]
      exact ⟨slu, pu⟩
    · show mo_Sl u j (va_up c.1 k (c.1 k) j) (c.2.1 j) ∧ mo_Pe u j (va_up c.2.2.1 k (ap_pass (c.2.2.1 k)).2 j)
      rw [va_up_ne _ _ e, va_up_ne _ _ e]
      exact ⟨(h.1 j hj).1.f fu' (fun n i a b => by rcases b with b | b | b <;> omega), (h.1 j hj).2.f fu' (fun n i a b => by rcases b with b | b | b <;> omega)⟩
  have front : B_Mo_tick_12 (fu + 1) 103 (nI k) t = if (if (ap_pass (c.2.2.1 k)).1 = 2 then (1 : Int32) else 0) = 0 then B_Mo_tick_12 fu 103 (nI (k + 1)) (ob_setI u 114 k (nI (c.1 k 2))) else B_Mo_tick_12 fu 103 (nI (k + 1)) (ob_setI u 114 k 3) := by
    rw [B_Mo_tick_12, if_neg (show ¬ (2 : Int32) ≤ nI k from nI_ge (b := 2) hk (by omega)), ob_b_e (mo_r14 hS), ob_b2_e eu, ob_b_e (mo_r14 su), ob_b_e (mo_a114 su hk), e114, B_Mo_tick_40, B_Mo_tick_40, ob_b_e (mo_w114 su hk), ob_b_e (mo_w114 su hk), nI_1]
  rw [front]
  by_cases c2 : (ap_pass (c.2.2.1 k)).1 = 2
  · rw [if_pos c2, if_neg (show ¬ (1 : Int32) = 0 by decide)]
    have hF : c.1 k 2 ≠ 0 := fun z => by rw [hf k z] at c2; exact absurd c2 (by decide)
    obtain ⟨a, r, -, ok, so⟩ := slu.r hF
    have f2 : mo_F (fun n j => n = 114 ∧ j = k) u (ob_setI u 114 k (nI 3)) := mo_F.o ⟨rfl, rfl⟩
    refine ⟨ob_setI u 114 k 3, rfl, ?_, fC.tr (f2.mono (fun n j z => by omega))⟩
    rw [cl_passS, if_neg (by omega), if_pos c2]
    have ci2 := ci.st (s := k) (F := va_up (c.1 k) 2 3) (B := c.2.1 k) (o := (ap_pass (c.2.2.1 k)).2) (f2.mono (fun n j z => Or.inl (by omega))) hk (mo_Sl.mk (r.set 2 114 3 (by simp)) (by rw [va_up_self]; omega) (by rw [va_up_self]; omega) ⟨by rw [va_up_self]; omega, ok.2⟩ (so_up so _ _ (by omega))) (pu.f f2 (fun n j a b => by omega))
    rw [if_neg (by omega)] at ci2
    simp only [cl_set, va_up_up] at ci2 ⊢
    exact ci2
  · rw [if_neg c2, if_pos rfl]
    have f2 := mo_same e114
    refine ⟨_, rfl, ?_, fC.tr (f2.mono (fun n j z => False.elim z))⟩
    have ci2 := ci.f f2 (fun n j _ _ z => z)
    rw [cl_passS]
    by_cases c1 : (ap_pass (c.2.2.1 k)).1 = 1
    · rw [if_pos c1] at ci2 ⊢
      simp only [cl_send, cl_set, va_up_id] at ci2 ⊢
      exact ci2
    · rw [if_neg c1] at ci2
      rw [if_neg c1, if_neg c2]
      simp only [cl_set, va_up_id] at ci2 ⊢
      exact ci2
theorem cl_passS_fr {k : Nat} (hf : cl_fr c) : cl_fr (cl_passS c k) := by
  intro j hj
  unfold cl_passS at hj ⊢
  by_cases e : j = k
  · subst e
    by_cases c1 : (ap_pass (c.2.2.1 j)).1 = 1
    · rw [if_pos c1] at hj ⊢
      simp only [cl_send, cl_set, va_up_self] at hj ⊢
      rw [hf j hj]
      rfl
    · rw [if_neg c1] at hj ⊢
      simp only [cl_set, va_up_self] at hj ⊢
      by_cases c2 : (ap_pass (c.2.2.1 j)).1 = 2
      · rw [if_pos c2, va_up_self] at hj
        omega
      · rw [if_neg c2] at hj
        rw [hf j hj]
        rfl
  · by_cases c1 : (ap_pass (c.2.2.1 k)).1 = 1
    · rw [if_pos c1] at hj ⊢
      simp only [cl_send, cl_set, va_up_ne _ _ e] at hj ⊢
      exact hf j hj
    · rw [if_neg c1] at hj ⊢
      simp only [cl_set, va_up_ne _ _ e] at hj ⊢
      exact hf j hj
/-- time passes for watcher k -/
theorem y_passK {k fu : Nat} (hS : mo_sh t) (h : mo_Sv t v) (hk : k < v.2.2.1.length) : ∃ u, B_Mo_tick_49 (fu + 1) 103 (nI k) t = B_Mo_tick_49 fu 103 (nI (sv_passK v k).2) u ∧ mo_Sv u (sv_passK v k).1 ∧ mo_F dSv t u := by
  have hW := h.1.2.2.2.2.2.1
  have hW2 := hW.2.1
  obtain ⟨x, hx, wa⟩ := hW.at hk
  obtain ⟨w1, w2, w3, w4, w5, w6⟩ := wa
  obtain ⟨u, eu, pu, lu, fu'⟩ := y_wears hS w5 h.2 (show 2 + k < 4 by omega)
  rw [if_neg (show ¬ 2 + k < 2 by omega)] at lu
  have su := hS.f fu'
  have dd : ∀ n j, dP (2 + k) n j ∨ dWL n j → dSv n j := fun n j z => by
    rcases z with z | z | z
    · exact Or.inl (dA_V (k := k) (by omega) (Or.inr z))
    · exact Or.inr (Or.inr z)
    · exact Or.inr (Or.inl z)
  have fS : mo_F dSv t u := fu'.mono dd
  have xu : mo_Sv u (v.1, v.2.1, v.2.2.1.set k (x.1, x.2.1, x.2.2.1, x.2.2.2.1, (ap_pass x.2.2.2.2).2), v.2.2.2.1, v.2.2.2.2.1, v.2.2.2.2.2.1, v.2.2.2.2.2.2.1, if (ap_pass x.2.2.2.2).1 = 1 then af_send v.2.2.2.2.2.2.2 (((ap_pass x.2.2.2.2).2.map (fun q => q.2.2.2.2)).getD []) 0 else v.2.2.2.2.2.2.2) := by
    refine h.told hk (fu'.mono (fun n j z => ?_)) ((fu'.2.2.2.2 _ _ (by omega)).trans h.1.2.1.1) h.1.2.1.2 ((fu'.2.2.2.2 _ _ (by omega)).trans h.1.2.2.1.1) h.1.2.2.1.2 ⟨?_, ?_, ?_, ?_, pu, w6⟩ lu
    · rcases z with z | z | z
      · exact Or.inr (Or.inr (Or.inl (Or.inr z)))
      · exact Or.inl z
      · exact Or.inr (Or.inl z)
    · exact (fu'.2.2.2.2 _ _ (by omega)).trans w1
    · exact (fu'.2.2.2.2 _ _ (by omega)).trans w2
    · exact (fu'.2.2.2.2 _ _ (by omega)).trans w3
    · exact (fu'.2.2.2.2 _ _ (by omega)).trans w4
  rw [B_Mo_tick_49, ob_b_e (mo_g hS), hW.1, if_neg (nI_ge hk (by omega)), mo_x2, ob_b2_e eu, sv_passK, hx]
  dsimp only
  by_cases c2 : (ap_pass x.2.2.2.2).1 = 2
  · rw [if_pos c2, if_neg (show ¬ (1 : Int32) = 0 by decide), if_pos c2]
    rw [if_neg (by omega)] at xu
    obtain ⟨w, ew, ww, fw⟩ := y_drop su xu.1.2.2.2.2.2.1 (show k < (v.2.2.1.set k _).length by rw [List.length_set]; exact hk)
    have x2 := xu.1.ws (fw.mono (fun n j z => Or.inl z)) ((fw.2.2.2.2 _ _ (by omega)).trans xu.1.2.1.1) xu.1.2.1.2 ww
    refine ⟨w, by rw [ob_b_e ew], ⟨x2, xu.2.f fw (fun n j a b => dL_V a (Or.inr (Or.inr (Or.inl b))))⟩, fS.tr (fw.mono (fun n j z => Or.inl (Or.inr (Or.inr (Or.inl z)))))⟩
  · rw [if_neg c2, if_pos rfl, if_neg c2, nI_1]
    refine ⟨u, rfl, ?_, fS⟩
    by_cases c1 : (ap_pass x.2.2.2.2).1 = 1
    · rw [if_pos c1] at xu ⊢
      exact xu
    · rw [if_neg c1] at xu ⊢
      exact xu
theorem sv_passK_left {k : Nat} (hk : k < v.2.2.1.length) : (sv_passK v k).1.2.2.1.length + k + 1 = v.2.2.1.length + (sv_passK v k).2 := by
  rw [sv_passK, List.getElem?_eq_getElem hk]
  dsimp only
  split
  · show ((v.2.2.1.set k _).eraseIdx k).length + k + 1 = v.2.2.1.length + k
    rw [List.length_eraseIdx, List.length_set, if_pos hk]
    omega
  · split
    · show (v.2.2.1.set k _).length + k + 1 = v.2.2.1.length + (k + 1)
      rw [List.length_set]
      omega
    · show (v.2.2.1.set k _).length + k + 1 = v.2.2.1.length + (k + 1)
      rw [List.length_set]
      omega
theorem y_pass (hS : mo_sh t) (h : mo_Sv t v) : ∃ u, B_Mo_tick_49 ob_fu 103 0 t = some (ob_i t 103 4, u) ∧ mo_Sv u (sv_pass v) ∧ mo_F dSv t u := by
  have stop : ∀ (u : ob_S) (v : sv_S) fu k, mo_sh u → mo_Sv u v → v.2.2.1.length ≤ k → k < 100 → B_Mo_tick_49 (fu + 1) 103 (nI k) u = some (ob_i u 103 4, u) := fun u v fu k hS h hk hk2 => by
    rw [B_Mo_tick_49, ob_b_e (mo_g hS), h.1.2.2.2.2.2.1.1, if_pos (nI_le hk (by omega)), ob_b_e (mo_g hS)]
  have h2 := h.1.2.2.2.2.2.1.2.1
  have e4 : ∀ {u : ob_S}, mo_F dSv t u → ob_i u 103 4 = ob_i t 103 4 := fun f => f.2.2.2.2 _ _ (by omega)
  show ∃ u, B_Mo_tick_49 (1997 + 1 + 1 + 1) 103 (nI 0) t = some (ob_i t 103 4, u) ∧ _
  rw [sv_pass]
  by_cases c0 : v.2.2.1.length = 0
  · rw [sv_passK_no (v := v) (by omega)]
    rw [sv_passK_no (by show v.2.2.1.length ≤ 0; omega)]
    exact ⟨t, stop t v _ 0 hS h (by omega) (by omega), h, mo_F.rf⟩
  · obtain ⟨u1, e1, v1, f1⟩ := y_passK (fu := 1997 + 1 + 1) (k := 0) hS h (by omega)
    have l1 := sv_passK_left (v := v) (k := 0) (by omega)
    have k1 := sv_passK_k (v := v) 0
    have s1 := hS.f f1
    rw [e1]
    by_cases c1 : (sv_passK v 0).1.2.2.1.length ≤ (sv_passK v 0).2
    · rw [sv_passK_no c1]
      exact ⟨u1, by rw [← e4 f1]; exact stop u1 _ _ _ s1 v1 c1 (by omega), v1, f1⟩
    · obtain ⟨u2, e2, v2, f2⟩ := y_passK (fu := 1997 + 1) (k := (sv_passK v 0).2) s1 v1 (by omega)
      have l2 := sv_passK_left (v := (sv_passK v 0).1) (k := (sv_passK v 0).2) (by omega)
      have k2 := sv_passK_k (v := (sv_passK v 0).1) (sv_passK v 0).2
      rw [e2]
      exact ⟨u2, by rw [← e4 (f1.tr f2)]; exact stop u2 _ _ _ (s1.f f2) v2 (by omega) (by omega), v2, f1.tr f2⟩
theorem z_Mo_tick (h : mo_Cs t s) (hf : cl_fr s.1) : ∃ u, X_Mo_tick 103 t = some ((st_tick s).1, u) ∧ mo_Cs u (st_tick s).2 ∧ mo_F dAll t u := by
  have hS := h.1
  have e4 := h.2.2.2.1
  obtain ⟨T, hT⟩ : ∃ T, T = ob_setI t 103 4 (s.2.2 + 1) := ⟨_, rfl⟩
  have fT : mo_F (fun n j => n = 103 ∧ j = 4) t T := by
    rw [hT]
    exact mo_F.o ⟨rfl, rfl⟩
  have hT1 : mo_Cs T (s.1, s.2.1, s.2.2 + 1) := by
    obtain ⟨h1, h2, h3, h4, h5⟩ := h
    exact ⟨h1.f fT, h2.f fT (fun n j a b z => by
      rcases a with a | a | a | a | a | a
      · exact b a
      · omega
      · omega
      · omega
      · omega
      · omega), h3.f fT (fun n j a b => by
      rcases a with a | a | a | a
      · omega
      · omega
      · rcases a with a | a | a
        · omega
        · rcases a with a | a | a <;> omega
        · rcases a with a | a | a <;> omega
      · rcases a with a | a <;> omega), by rw [hT, ob_i_self], h5⟩
  have sT := hT1.1
  obtain ⟨u1, e1, c1, f1⟩ := y_passS (fu := 1997 + 1 + 1) (k := 0) sT hT1.2.1 hf (by omega)
  obtain ⟨u2, e2, c2, f2⟩ := y_passS (fu := 1997 + 1) (k := 1) (sT.f f1) c1 (cl_passS_fr hf) (by omega)
  have hc := hT1.cl (f1.tr f2) c2
  obtain ⟨u3, e3, v3, f3⟩ := y_pass hc.1 hc.svv
  have fin := hc.sv f3 v3
  have u4 : ob_i u2 103 4 = s.2.2 + 1 := hc.2.2.2.1
  refine ⟨u3, ?_, fin, ((fT.mono (fun n j z => by show 103 ≤ n; omega)).tr ((f1.tr f2).mono (fun n j z => dCl_all z))).tr (f3.mono (fun n j z => dSv_all z))⟩
  rw [X_Mo_tick, mo_this hS, ob_b_e (mo_g hS), e4, ob_b_e (mo_p hS), ← hT]
  show B_Mo_tick_12 (1997 + 1 + 1 + 1) 103 (nI 0) T = _
  rw [e1, e2]
  show B_Mo_tick_12 (1997 + 1) 103 (nI 2) u2 = _
  rw [B_Mo_tick_12, if_pos (show (2 : Int32) ≤ nI 2 by decide), e3, u4]
  rfl
end YTK

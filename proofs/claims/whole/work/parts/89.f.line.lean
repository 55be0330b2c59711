/-! LAYER 2, 54: the reference: lose, repeat, spoil, deliver -/
theorem y_take85 {t : ob_S} {j : Nat} (k2 : Nat → Int32 → ob_S → Option ob_S) (hS : mo_sh t) (hj : j < 15) : ∃ u, B_Mo_take_85 k2 ob_fu 103 (nI j) 0 t = k2 103 (nI (j + 1)) u ∧ mo_F (fun n i => n = 104 ∧ 64 * j ≤ i ∧ i < 64 * j + 64) t u ∧ ∀ i, i < 64 → ob_i u 104 (64 * j + i) = ob_i t 104 (64 * j + 64 + i) := by
  obtain ⟨g, u, eu, fu, vu⟩ := mo_loop (G := fun fu i x => B_Mo_take_85 k2 fu 103 (nI j) i x) (dst := 104) (o := 64 * j) (n := 64) (val := fun i => ob_i t 104 (64 * j + 64 + i)) (t := t) (fun fu i u hi f => by
    have s1 : mo_sh u := hS.f f
    have e : ob_i u 104 (64 * j + 64 + i) = ob_i t 104 (64 * j + 64 + i) := f.2.2.2.2 _ _ (by omega)
    show B_Mo_take_85 k2 (fu + 1) 103 (nI j) (nI i) u = _
    rw [B_Mo_take_85, if_neg (show ¬ (64 : Int32) ≤ nI i from nI_ge (b := 64) hi (by omega)), ob_b_e (mo_r0 s1), ob_b_e (mo_r0 s1), y_copy64, ob_b_e (mo_a104 s1 (by omega)), mo_x64, ob_b_e (mo_w104 s1 (by omega)), nI_1, e]) ob_fu (by decide)
  refine ⟨u, ?_, fu, vu⟩
  refine Eq.trans eu ?_
  show B_Mo_take_85 k2 (g + 1) 103 (nI j) (nI 64) u = _
  rw [B_Mo_take_85, if_pos (show (64 : Int32) ≤ nI 64 by decide), nI_1]
theorem y_take45 {t : ob_S} {LL : List (List Nat × Nat)} {k : Nat} (hS : mo_sh t) (h : mo_Li t LL) (hk : k < LL.length) : ∃ u, B_Mo_take_45 ob_fu 103 (nI k) t = some u ∧ mo_Li u (LL.eraseIdx k) ∧ mo_F dL t u := by
  have h16 := h.2.1
  have key : ∀ d j fu u, j + d + 1 = LL.length → k ≤ j → d < fu → mo_F dL t u → ob_i u 103 3 = nI LL.length → (∀ i q, i < j → (LL.eraseIdx k)[i]? = some q → mo_dg u i q) → (∀ i q, j ≤ i → LL[i]? = some q → mo_dg u i q) → ∃ w, B_Mo_take_45 fu 103 (nI j) u = some w ∧ mo_Li w (LL.eraseIdx k) ∧ mo_F dL t w := by
    intro d
    induction d with
    | zero =>
      intro j fu u hj hkj hf f e3 h1 h2
      obtain ⟨fu, rfl⟩ : ∃ g, fu = g + 1 := ⟨fu - 1, by omega⟩
      have s1 := hS.f f
      have f1 : mo_F (fun n i => n = 103 ∧ i = 3) u (ob_setI u 103 3 (nI (LL.length - 1))) := mo_F.o ⟨rfl, rfl⟩
      have el : (LL.eraseIdx k).length = LL.length - 1 := by rw [List.length_eraseIdx, if_pos hk]
      refine ⟨ob_setI u 103 3 (nI (LL.length - 1)), ?_, ⟨by rw [ob_i_self, el], by omega, fun i q e => ?_⟩, f.s (by omega)⟩
      · rw [B_Mo_take_45, ob_b_e (mo_g s1), e3, nI_1, if_pos (nI_le (by omega) (by omega)), ob_b_e (mo_g s1), e3, ob_b_e (mo_p s1), show nI LL.length - 1 = nI (LL.length - 1) from nb_sub (b := 1) (by omega)]
      · have hi := (List.getElem?_eq_some_iff.mp e).1
        exact (h1 i q (by omega) e).f f1 (by omega) (by omega) (fun x _ _ => by omega)
    | succ d ih =>
      intro j fu u hj hkj hf f e3 h1 h2
      obtain ⟨fu, rfl⟩ : ∃ g, fu = g + 1 := ⟨fu - 1, by omega⟩
      have s1 := hS.f f
      have hj1 : j + 1 < LL.length := by omega
      obtain ⟨T, hT⟩ : ∃ T, T = ob_setI (ob_setI u 105 j (ob_i u 105 (j + 1))) 106 j (ob_i u 106 (j + 1)) := ⟨_, rfl⟩
      have fT : mo_F (fun n i => (n = 105 ∨ n = 106) ∧ i = j) u T := by
        rw [hT]
        exact (mo_F.o (by omega)).s (by omega)
      have sT := s1.f fT
      obtain ⟨w, ew, fw, vw⟩ := y_take85 (B_Mo_take_45 fu) sT (j := j) (by omega)
      have fuw : mo_F (fun n i => ((n = 105 ∨ n = 106) ∧ i = j) ∨ (n = 104 ∧ 64 * j ≤ i ∧ i < 64 * j + 64)) u w := (fT.mono (fun n i z => Or.inl z)).tr (fw.mono (fun n i z => Or.inr z))
      have moved : ∀ q, LL[j + 1]? = some q → mo_dg w j q := fun q e => by
        obtain ⟨a1, a2, a3, a4, a5⟩ := h2 (j + 1) q (by omega) e
        refine ⟨?_, ?_, fun i hi => ?_, a4, a5⟩
        · rw [fw.2.2.2.2 _ _ (by omega), hT, ob_i_n (by omega), ob_i_self, a1]
        · rw [fw.2.2.2.2 _ _ (by omega), hT, ob_i_self, a2]
        · rw [vw i (by omega), fT.2.2.2.2 _ _ (by omega)]
          have := a3 i hi
          rwa [show 64 * (j + 1) + i = 64 * j + 64 + i by omega] at this
      obtain ⟨x, ex, q⟩ := ih (j + 1) fu w (by omega) (by omega) (by omega) (f.tr (fuw.mono (fun n i z => by omega))) ((fuw.2.2.2.2 _ _ (by omega)).trans e3) (fun i q hi e => by
        by_cases c : i = j
        · subst c
          rw [List.getElem?_eraseIdx, if_neg (by omega)] at e
          exact moved q e
        · exact (h1 i q (by omega) e).f fuw (by omega) (by omega) (fun x _ _ => by omega)) (fun i q hi e => (h2 i q (by omega) e).f fuw (by omega) (by omega) (fun x _ _ => by omega))
      refine ⟨x, ?_, q⟩
      rw [← ex, ← ew]
      have s2 : mo_sh (ob_setI u 105 j (ob_i u 105 (j + 1))) := s1
      have e106 : ob_i (ob_setI u 105 j (ob_i u 105 (j + 1))) 106 (j + 1) = ob_i u 106 (j + 1) := ob_i_n (by omega)
      rw [B_Mo_take_45, ob_b_e (mo_g s1), e3, nI_1, if_neg (nI_ge hj1 (by omega)), ob_b_e (mo_r1 s1), ob_b_e (mo_r1 s1), ob_b_e (mo_a105 s1 (by omega)), ob_b_e (mo_w105 s1 (by omega)), ob_b_e (mo_r2 s2), ob_b_e (mo_r2 s2), ob_b_e (mo_a106 s2 (by omega)), e106, ob_b_e (mo_w106 s2 (by omega)), ← hT]
  exact key (LL.length - k - 1) k ob_fu t (by omega) (by omega) (by show _ < 2000; omega) mo_F.rf h.1 (fun i q hi e => by
    rw [List.getElem?_eraseIdx, if_pos hi] at e
    exact h.2.2 i q e) (fun i q _ e => h.2.2 i q e)
section YLN
variable {t u : ob_S} {s : st_S}
theorem y_take {k : Nat} {q : List Nat × Nat} (h : mo_Cs t s) (hq : s.1.2.2.2.2[k]? = some q) : ∃ u, X_Mo_take 103 (nI k) t = some u ∧ mo_Cs u (st_l s (s.1.2.2.2.2.eraseIdx k)) ∧ mo_In u q.1 ∧ mo_F dN t u := by
  have hS := h.1
  have hk := (List.getElem?_eq_some_iff.mp hq).1
  have h16 := h.len
  obtain ⟨d1, d2, d3, d4, d5, d6⟩ := h.2.1.2.2.2.2 k q hq
  obtain ⟨T, hT⟩ : ∃ T, T = ob_setI t 103 48 (nI q.1.length) := ⟨_, rfl⟩
  have fT : mo_F (fun n j => n = 103 ∧ j = 48) t T := by
    rw [hT]
    exact mo_F.o ⟨rfl, rfl⟩
  have sT := hS.f fT
  have t48 : ob_i T 103 48 = nI q.1.length := by rw [hT, ob_i_self]
  obtain ⟨g, u, eu, fu, vu⟩ := mo_loop (G := fun fu i x => B_Mo_take_12 fu 103 (nI k) i x) (dst := 141) (o := 0) (n := q.1.length) (val := fun i => nI (q.1.getD i 0)) (t := T) (fun fu i u hi f => by
    have s1 : mo_sh u := sT.f f
    have e48 : ob_i u 103 48 = nI q.1.length := (f.2.2.2.2 _ _ (by omega)).trans t48
    have e104 : ob_i u 104 (64 * k + i) = nI (q.1.getD i 0) := by
      rw [f.2.2.2.2 _ _ (by omega), fT.2.2.2.2 _ _ (by omega)]
      exact d3 i hi
    show B_Mo_take_12 (fu + 1) 103 (nI k) (nI i) u = _
    rw [B_Mo_take_12, ob_b_e (mo_g s1), e48, if_neg (nI_ge hi (by omega)), ob_b_e (mo_r47 s1), ob_b_e (mo_r0 s1), mo_x64, ob_b_e (mo_a104 s1 (by omega)), e104, ob_b_e (mo_w141 s1 (by omega)), nI_1, Nat.zero_add]) ob_fu (by show q.1.length < 2000; omega)
  have s1 := sT.f fu
  have u48 : ob_i u 103 48 = nI q.1.length := (fu.2.2.2.2 _ _ (by omega)).trans t48
  have ftu : mo_F (fun n j => (n = 103 ∧ j = 48) ∨ n = 141) t u := (fT.mono (fun n j z => Or.inl z)).tr (fu.mono (fun n j z => by omega))
  obtain ⟨w, ew, lw, fw⟩ := y_take45 s1 (h.2.1.2.2.f ftu (fun n j a b => by omega)) hk
  have fN : mo_F dN t w := (ftu.mono (fun n j z => Or.inr (Or.inr (by omega)))).tr (fw.mono (fun n j z => Or.inl z))
  refine ⟨w, ?_, h.ln fN lw, ⟨(fw.2.2.2.2 _ _ (by omega)).trans u48, fun i hi => ?_, d4, d5⟩, fN⟩
  · rw [X_Mo_take, mo_this hS, ob_b_e (mo_r1 hS), ob_b_e (mo_a105 hS (by omega)), d1, ob_b_e (mo_p hS), ← hT]
    refine Eq.trans eu ?_
    show B_Mo_take_12 (g + 1) 103 (nI k) (nI q.1.length) u = _
    rw [B_Mo_take_12, ob_b_e (mo_g s1), u48, if_pos (nI_le (Nat.le_refl _) (by omega))]
    exact ew
  · rw [fw.2.2.2.2 _ _ (by omega)]
    exact vu i hi
theorem z_Mo_lose (h : mo_Cs t s) (k : Int32) : ∃ u, X_Mo_lose 103 k t = some ((st_lose s k).1, u) ∧ mo_Cs u (st_lose s k).2 ∧ mo_F dAll t u := by
  have hS := h.1
  rw [X_Mo_lose, mo_this hS, ob_b2_e (y_isDatagram h k), st_lose]
  by_cases c : ln_bad s k
  · rw [if_pos c, if_neg (fun z => z rfl), if_pos c]
    exact ⟨t, rfl, h, mo_F.rf⟩
  · obtain ⟨j, hj, rfl⟩ := ln_in h.len c
    have hl := h.len
    obtain ⟨q, hq, -⟩ := h.dg hj
    obtain ⟨u, eu, cu, iu, fu⟩ := y_take h hq
    rw [if_neg c, if_pos (show ¬ (1 : Int32) = 0 by decide), if_neg c, nI_clamp (by omega)]
    refine ⟨u, ?_, cu, fu.mono (fun n i z => dN_all z)⟩
    have e3 : ob_i u 103 3 = nI (s.1.2.2.2.2.length - 1) := by
      have := cu.2.1.2.2.1
      rw [show (st_l s (s.1.2.2.2.2.eraseIdx j)).1.2.2.2.2 = s.1.2.2.2.2.eraseIdx j from rfl, List.length_eraseIdx, if_pos hj] at this
      exact this
    rw [ob_b_e eu, ob_b_e (mo_g cu.1), e3]
theorem z_Mo_repeat (h : mo_Cs t s) (k : Int32) : ∃ u, X_Mo_repeat 103 k t = some ((st_repeat s k).1, u) ∧ mo_Cs u (st_repeat s k).2 ∧ mo_F dAll t u := by
  have hS := h.1
  rw [X_Mo_repeat, mo_this hS, ob_b2_e (y_isDatagram h k), st_repeat]
  by_cases c : ln_bad s k
  · rw [if_pos c, if_neg (fun z => z rfl), if_pos c]
    exact ⟨t, rfl, h, mo_F.rf⟩
  · obtain ⟨j, hj, rfl⟩ := ln_in h.len c
    have hl := h.len
    obtain ⟨q, hq, d1, d2, d3, d4, d5, d6⟩ := h.dg hj
    rw [if_neg c, if_pos (show ¬ (1 : Int32) = 0 by decide), if_neg c, nI_clamp (by omega), hq]
    obtain ⟨g, u, last, eu, ou, fu⟩ := mo_lay (t := t) (G := fun fu i x => B_Mo_repeat_22 fu 103 (nI j) i x) (L := q.1) hS d4 d5 (fun fu i u hi f => by
      have f1 : mo_F (fun n j => (n = 103 ∧ j = 45) ∨ n = 140) t u := (mo_F.o (D := fun n j => (n = 103 ∧ j = 45) ∨ n = 140) (Or.inl ⟨rfl, rfl⟩)).tr (f.mono (fun n j z => by omega))
      have s1 : mo_sh u := hS.f f1
      have e45 : ob_i u 103 45 = nI q.1.length := by rw [f.2.2.2.2 _ _ (by omega), ob_i_self]
      have e104 : ob_i u 104 (64 * j + i) = nI (q.1.getD i 0) := (f1.2.2.2.2 _ _ (by omega)).trans (d3 i hi)
      show B_Mo_repeat_22 (fu + 1) 103 (nI j) (nI i) u = _
      rw [B_Mo_repeat_22, ob_b_e (mo_g s1), e45, if_neg (nI_ge hi (by omega)), ob_b_e (mo_r44 s1), ob_b_e (mo_r0 s1), mo_x64, ob_b_e (mo_a104 s1 (by omega)), e104, ob_b_e (mo_w140 s1 (by omega)), nI_1, Nat.zero_add])
    have s1 := ou.1
    have u106 : ob_i u 106 j = nI q.2 := (fu.2.2.2.2 _ _ (by omega)).trans d2
    obtain ⟨x, ex, lx, fx⟩ := y_send (g := nI q.2) q.2 (h.2.1.2.2.f fu (fun n j a b => by omega)) ou rfl d6 d4
    have fN : mo_F dN t x := (fu.mono (fun n j z => Or.inr (Or.inl z))).tr (fx.mono (fun n j z => Or.inl z))
    have sx := hS.f fN
    refine ⟨x, ?_, h.ln fN lx, fN.mono (fun n i z => dN_all z)⟩
    rw [ob_b_e (mo_r1 hS), ob_b_e (mo_a105 hS (by omega)), d1, ob_b_e (mo_p hS)]
    refine Eq.trans eu ?_
    show B_Mo_repeat_22 (g + 1) 103 (nI j) (nI q.1.length) u = _
    rw [B_Mo_repeat_22, ob_b_e (mo_g s1), ou.2.1, if_pos (nI_le (Nat.le_refl _) (by omega)), ob_b_e (mo_r2 s1), ob_b_e (mo_a106 s1 (by omega)), u106, ob_b_e ex, ob_b_e (mo_g sx), lx.1]
theorem z_Mo_spoil (h : mo_Cs t s) (k i b : Int32) : ∃ u, X_Mo_spoil 103 k i b t = some ((st_spoil s k i b).1, u) ∧ mo_Cs u (st_spoil s k i b).2 ∧ mo_F dAll t u := by
  have hS := h.1
  have bad : B_Mo_spoil_33 t = some (0, t) := rfl
  rw [X_Mo_spoil, mo_this hS, ob_b2_e (y_isDatagram h k), sel2 (y := 255) (m := 255) rfl, bad, st_spoil]
  by_cases c : ln_bad s k
  · rw [if_pos c, if_pos rfl, if_pos c]
    exact ⟨t, rfl, h, mo_F.rf⟩
  · obtain ⟨j, hj, rfl⟩ := ln_in h.len c
    have hl := h.len
    obtain ⟨q, hq, d1, d2, d3, d4, d5, d6⟩ := h.dg hj
    rw [if_neg c, if_neg (show ¬ (1 : Int32) = 0 by decide), if_neg c, nI_clamp (by omega), hq]
    show ∃ u, (if i < 0 then some (0, t) else (ob_gR 11 1 103 t).bind fun n14 => (ob_aI n14 (nI j) t).bind fun x18 => if x18 ≤ i then some (0, t) else if in_bad b 255 then some (0, t) else (ob_gR 11 0 103 t).bind fun n36 => (ob_gR 11 0 103 t).bind fun n46 => (ob_aI n46 (((64 : Int32) * nI j) + i) t).bind fun x55 => (ob_wI n36 (((64 : Int32) * nI j) + i) (x55 ^^^ b) t).bind fun t58 => ob_z (1 : Int32) t58) = some ((if i < 0 ∨ nI q.1.length ≤ i then (0, s) else if in_bad b 255 then (0, s) else (1, st_l s (ln_sp s.1.2.2.2.2 j i.toNatClampNeg b.toNatClampNeg))).1, u) ∧ mo_Cs u (if i < 0 ∨ nI q.1.length ≤ i then (0, s) else if in_bad b 255 then (0, s) else (1, st_l s (ln_sp s.1.2.2.2.2 j i.toNatClampNeg b.toNatClampNeg))).2 ∧ mo_F dAll t u
    by_cases ci : i < 0
    · rw [if_pos ci, if_pos (Or.inl ci)]
      exact ⟨t, rfl, h, mo_F.rf⟩
    · rw [if_neg ci, ob_b_e (mo_r1 hS), ob_b_e (mo_a105 hS (by omega)), d1]
      obtain ⟨m, hm, rfl⟩ := nI_of ci
      by_cases cm : q.1.length ≤ m
      · rw [if_pos (nI_le cm hm), if_pos (Or.inr (nI_le cm hm))]
        exact ⟨t, rfl, h, mo_F.rf⟩
      · have ng : ¬ nI q.1.length ≤ nI m := nI_ge (by omega) (by omega)
        rw [if_neg ng, if_neg (show ¬ (nI m < 0 ∨ nI q.1.length ≤ nI m) from fun z => z.elim ci ng)]
        by_cases cb : in_bad b 255
        · rw [if_pos cb, if_pos cb]
          exact ⟨t, rfl, h, mo_F.rf⟩
        · rw [if_neg cb, if_neg cb]
          obtain ⟨y, hy, rfl⟩ := nb_in (by omega) cb
          rw [nI_clamp hm, nI_clamp (by omega)]
          have hx : q.1.getD m 0 < 256 := ps_get_lt d5 m
          obtain ⟨x1, x2⟩ := nb_xor hx (show y < 256 by omega)
          have e104 := d3 m (by omega)
          obtain ⟨T, hT⟩ : ∃ T, T = ob_setI t 104 (64 * j + m) (nI (q.1.getD m 0 ^^^ y)) := ⟨_, rfl⟩
          have fT : mo_F (fun n x => n = 104 ∧ x = 64 * j + m) t T := by
            rw [hT]
            exact mo_F.o ⟨rfl, rfl⟩
          have fN : mo_F dN t T := fT.mono (fun n x z => Or.inl (by omega))
          have el : ln_sp s.1.2.2.2.2 j m y = s.1.2.2.2.2.set j (q.1.set m (q.1.getD m 0 ^^^ y), q.2) := by rw [ln_sp, hq]
          have lT : mo_Li T (ln_sp s.1.2.2.2.2 j m y) := by
            rw [el]
            refine ⟨by rw [List.length_set]; exact (fT.2.2.2.2 _ _ (by omega)).trans h.2.1.2.2.1, by rw [List.length_set]; exact hl, fun x p e => ?_⟩
            by_cases cx : x = j
            · subst cx
              rw [List.getElem?_set_self hj] at e
              cases e
              refine ⟨by rw [List.length_set]; exact (fT.2.2.2.2 _ _ (by omega)).trans d1, (fT.2.2.2.2 _ _ (by omega)).trans d2, fun z hz => ?_, by rw [List.length_set]; exact d4, fun z hz => ?_, d6⟩
              · rw [List.length_set] at hz
                show ob_i T 104 (64 * x + z) = nI ((q.1.set m (q.1.getD m 0 ^^^ y)).getD z 0)
                by_cases cz : z = m
                · subst cz
                  rw [hT, ob_i_self, List.getD_eq_getElem?_getD (l := q.1.set z _), List.getElem?_set_self hz]
                  rfl
                · rw [fT.2.2.2.2 _ _ (by omega), List.getD_eq_getElem?_getD (l := q.1.set m _), List.getElem?_set_ne (fun w => cz w.symm), ← List.getD_eq_getElem?_getD]
                  exact d3 z hz
              · rcases List.mem_or_eq_of_mem_set hz with w | w
                · exact d5 z w
                · rw [w]; exact x2
            · rw [List.getElem?_set_ne (fun w => cx w.symm)] at e
              have hp := h.2.1.2.2.2.2 x p e
              have hp4 := hp.2.2.2.1
              exact hp.f fT (by omega) (by omega) (fun z _ _ => by omega)
          refine ⟨T, ?_, h.ln fN lT, fN.mono (fun n i z => dN_all z)⟩
          rw [ob_b_e (mo_r0 hS), ob_b_e (mo_r0 hS), mo_x64, ob_b_e (mo_a104 hS (by omega)), e104, x1, ob_b_e (mo_w104 hS (by omega)), ← hT]
          rfl
/-- a message without a code has no token -/
theorem ps_read_tok {L : List Nat} {r : (Nat → Int32) × List (List Nat) × List Nat} {ty code id : Nat} {tok w b2 b1 : Option Nat} (hL : ∀ x ∈ L, x < 256) (h : ps_read L = some r) (hF : ∀ k, k < 7 → r.1 k = mF ty code id tok w b2 b1 k) (hm : ms_ok ty code id tok w b2 b1 r.2.2) (hc : code = 0) : tok = none := by
  have g1 := ps_get_lt hL 1
  have h3 : r.1 3 = oI tok := hF 3 (by omega)
  have h1 : r.1 1 = nI code := hF 1 (by omega)
  have htk : ∀ x, tok = some x → x < 2 ^ 31 := fun x hx => by have := hm.2.2.2.1 x hx; omega
  unfold ps_read at h
  by_cases c : 4 ≤ L.length ∧ L.getD 0 0 / 64 = 1 ∧ L.getD 0 0 % 16 = (if L.getD 1 0 = 0 then 0 else 1)
  · rw [if_pos c] at h
    by_cases c0 : L.getD 1 0 = 0
    · rw [if_pos c0] at h
      by_cases c4 : L.length = 4
      · rw [if_pos c4] at h
        cases h
        exact (oI_none htk).mp h3.symm
      · rw [if_neg c4] at h; cases h
    · rw [if_neg c0] at h
      by_cases c5 : 5 ≤ L.length
      · rw [if_pos c5] at h
        cases ho : ps_opts L 6 (5, 0, ps_F (L.getD 0 0 / 16 % 4) (L.getD 1 0) (256 * L.getD 2 0 + L.getD 3 0) (nI (L.getD 4 0)), []) with
        | none => rw [ho] at h; cases h
        | some q =>
          rw [ho] at h
          have h : (if q.1 = L.length then some (q.2.2.1, q.2.2.2, []) else if q.1 + 1 < L.length ∧ L.length - q.1 - 1 ≤ 32 then some (q.2.2.1, q.2.2.2, L.drop (q.1 + 1)) else none) = some r := h
          obtain ⟨w', b2', b1', e, -⟩ := ps_opts_inv (ty := L.getD 0 0 / 16 % 4) (code := L.getD 1 0) (id := 256 * L.getD 2 0 + L.getD 3 0) (tok := some (L.getD 4 0)) hL 6 _ q ⟨none, none, none, ps_F_mF _ _ _ (some (L.getD 4 0)), (fun x hx => by cases hx), (fun x hx => by cases hx), (fun x hx => by cases hx), (fun V hV => by cases hV)⟩ ho
          have e1 : r.1 1 = nI (L.getD 1 0) := by
            by_cases a1 : q.1 = L.length
            · rw [if_pos a1] at h
              cases h
              exact e 1 (by omega)
            · rw [if_neg a1] at h
              by_cases a2 : q.1 + 1 < L.length ∧ L.length - q.1 - 1 ≤ 32
              · rw [if_pos a2] at h
                cases h
                exact e 1 (by omega)
              · rw [if_neg a2] at h; cases h
          rw [h1, hc] at e1
          exact absurd ((nI_eq (by omega) (by omega)).mp e1).symm c0
      · rw [if_neg c5] at h; cases h
  · rw [if_neg c] at h; cases h
theorem z_Mo_deliver (h : mo_Cs t s) (k : Int32) : ∃ u, X_Mo_deliver 103 k t = some ((st_deliver s k).1, u) ∧ mo_Cs u (st_deliver s k).2 ∧ mo_F dAll t u := by
  have hS := h.1
  rw [X_Mo_deliver, mo_this hS, ob_b2_e (y_isDatagram h k), st_deliver]
  by_cases c : ln_bad s k
  · rw [if_pos c, if_neg (fun z => z rfl), if_pos c]
    exact ⟨t, rfl, h, mo_F.rf⟩
  · obtain ⟨j, hj, rfl⟩ := ln_in h.len c
    have hl := h.len
    obtain ⟨q, hq, d1, d2, d3, d4, d5, d6⟩ := h.dg hj
    obtain ⟨u1, e1, c1, i1, f1⟩ := y_take h hq
    have s1 := c1.1
    have fA1 : mo_F dAll t u1 := f1.mono (fun n i z => dN_all z)
    rw [if_neg c, if_pos (show ¬ (1 : Int32) = 0 by decide), if_neg c, nI_clamp (by omega), hq, ob_b_e (mo_r2 hS), ob_b_e (mo_a106 hS (by omega)), d2, ob_b_e e1]
    obtain ⟨k1, k2⟩ := y_read s1 i1
    dsimp only
    cases hr : ps_read q.1 with
    | none =>
      obtain ⟨u2, e2, f2⟩ := k1 hr
      have c2 := c1.ln (f2.mono (fun n i z => Or.inr (Or.inr z))) (c1.2.1.2.2.f f2 (fun n j a b => by omega))
      refine ⟨u2, ?_, c2, fA1.tr (f2.mono (fun n i z => dN_all (Or.inr (Or.inr z))))⟩
      have e3 : ob_i u2 103 3 = nI (s.1.2.2.2.2.length - 1) := by
        have := c2.2.1.2.2.1
        rw [show (st_l (st_l s (s.1.2.2.2.2.eraseIdx j)) (st_l s (s.1.2.2.2.2.eraseIdx j)).1.2.2.2.2).1.2.2.2.2 = s.1.2.2.2.2.eraseIdx j from rfl, List.length_eraseIdx, if_pos hj] at this
        exact this
      rw [ob_b2_e e2, if_pos (show (0 : Int32) = 0 from rfl), B_Mo_deliver_44, ob_b_e (mo_g c2.1), e3]
    | some r =>
      obtain ⟨u2, e2, rd, pl, f2⟩ := k2 r hr
      have c2 : mo_Cs u2 (st_l s (s.1.2.2.2.2.eraseIdx j)) := c1.ln (f2.mono (fun n i z => Or.inr (Or.inr z))) (c1.2.1.2.2.f f2 (fun n j a b => by omega))
      have s2 := c2.1
      have fA2 : mo_F dAll t u2 := fA1.tr (f2.mono (fun n i z => dN_all (Or.inr (Or.inr z))))
      obtain ⟨ty, code, id, tok, w, b2, b1, hF, mok, sok, htk⟩ := ps_read_ok d5 hr
      have htn := ps_read_tok d5 hr hF mok
      have F0 : r.1 0 = nI ty := hF 0 (by omega)
      have F1 : r.1 1 = nI code := hF 1 (by omega)
      have F2 : r.1 2 = nI id := hF 2 (by omega)
      have F3 : r.1 3 = oI tok := hF 3 (by omega)
      have F4 : r.1 4 = oI w := hF 4 (by omega)
      have F5 : r.1 5 = oI b2 := hF 5 (by omega)
      have F6 : r.1 6 = oI b1 := hF 6 (by omega)
      have o1 : ∀ x, tok = some x → x < 2 ^ 31 := fun x hx => by have := mok.2.2.2.1 x hx; omega
      have o2 : ∀ x, w = some x → x < 2 ^ 31 := fun x hx => by have := mok.2.2.2.2.1 x hx; omega
      have o3 : ∀ x, b2 = some x → x < 2 ^ 31 := fun x hx => by have := mok.2.2.2.2.2.1 x hx; omega
      have o4 : ∀ x, b1 = some x → x < 2 ^ 31 := fun x hx => by have := mok.2.2.2.2.2.2.1 x hx; omega
      have m1 := mok.1
      have m2 := mok.2.1
      have m3 := mok.2.2.1
      obtain ⟨r49, r50, r51, r52, r53, r57, r58, rS⟩ := rd
      have mm : mo_Mm u2 ty code id tok w b2 b1 r.2.1 r.2.2 := ⟨r49.trans F0, r50.trans F1, r51.trans F2, r52.trans F3, r53.trans F4, r57.trans F5, r58.trans F6, pl, rS, mok, sok⟩
      have er : st_recv (st_l s (s.1.2.2.2.2.eraseIdx j)) q.2 r = if q.2 = 0 then st_c (st_l s (s.1.2.2.2.2.eraseIdx j)) (cl_recv (st_l s (s.1.2.2.2.2.eraseIdx j)).1 ty code id tok w b2 r.2.2) else if ty = 0 ∧ (code = 1 ∨ code = 3) then st_v (st_l s (s.1.2.2.2.2.eraseIdx j)) (sv_answer (st_l s (s.1.2.2.2.2.eraseIdx j)).2.1 code id (tok.getD 0) w b2 b1 r.2.1 r.2.2 (st_l s (s.1.2.2.2.2.eraseIdx j)).2.2) else st_v (st_l s (s.1.2.2.2.2.eraseIdx j)) (sv_rec (st_l s (s.1.2.2.2.2.eraseIdx j)).2.1 ty code id) := by
        rw [st_recv, F0, F1, F2, F3, F4, F5, F6, nI_clamp (by omega), nI_clamp (by omega), nI_clamp (by omega), dO_oI o1, dO_oI o2, dO_oI o3, dO_oI o4]
      dsimp only
      rw [ob_b2_e e2, if_neg (show ¬ (1 : Int32) = 0 by decide), er]
      by_cases cq : q.2 = 0
      · rw [if_neg (show ¬ ¬ nI q.2 = 0 from fun z => z (by rw [cq]; rfl)), if_pos cq]
        obtain ⟨u3, e3, c3, f3⟩ := y_toClient s2 c2.2.1 mm htn
        have hc := c2.cl f3 c3
        refine ⟨u3, ?_, hc, fA2.tr (f3.mono (fun n i z => dCl_all z))⟩
        rw [ob_b_e e3, B_Mo_deliver_44, ob_b_e (mo_g hc.1), hc.2.1.2.2.1]
      · rw [if_pos (nI_ne0 (by omega) (by omega)), if_neg cq]
        obtain ⟨u3, e3, v3, f3⟩ := y_toServer s2 c2.svv mm htk c2.2.2.2.1
        by_cases cc : ty = 0 ∧ (code = 1 ∨ code = 3)
        · rw [if_pos cc] at v3 ⊢
          have hc := c2.sv f3 v3
          refine ⟨u3, ?_, hc, fA2.tr (f3.mono (fun n i z => dSv_all z))⟩
          rw [ob_b_e e3, B_Mo_deliver_44, ob_b_e (mo_g hc.1), hc.2.1.2.2.1]
        · rw [if_neg cc] at v3 ⊢
          have hc := c2.sv f3 v3
          refine ⟨u3, ?_, hc, fA2.tr (f3.mono (fun n i z => dSv_all z))⟩
          rw [ob_b_e e3, B_Mo_deliver_44, ob_b_e (mo_g hc.1), hc.2.1.2.2.1]
end YLN

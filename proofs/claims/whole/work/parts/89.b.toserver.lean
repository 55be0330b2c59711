/-! LAYER 2, 50: a message comes to the reference's server -/
section YTS
variable {t : ob_S} {v : sv_S} {ty code id tk k : Nat} {tok w b2 b1 : Option Nat} {S : List (List Nat)} {P : List Nat} {now : Int32}
theorem y_again {q : am_A} (hS : mo_sh t) (h : mo_Sv t v) (hq : v.2.2.2.1[k]? = some q) : ∃ u, ((ob_pI 11 45 103 (nI q.2.2.length) t).bind fun t59 => B_Mo_toServer_64 ob_fu 103 (nI k) (0 : Int32) t59) = some u ∧ mo_Sv u (sv_send v q.2.2) ∧ mo_F dSv t u := by
  have hM := h.1.2.2.2.2.2.2
  have hM4 := hM.2.1
  have hk := (List.getElem?_eq_some_iff.mp hq).1
  obtain ⟨a1, a2, a3, a4, a5, a6⟩ := hM.2.2 k q hq
  obtain ⟨g, u, last, eu, ou, fu⟩ := mo_lay (t := t) (G := fun fu i x => B_Mo_toServer_64 fu 103 (nI k) i x) (L := q.2.2) hS a5 a6 (fun fu i u hi f => by
    have f1 : mo_F (fun n j => (n = 103 ∧ j = 45) ∨ n = 140) t u := (mo_F.o (D := fun n j => (n = 103 ∧ j = 45) ∨ n = 140) (Or.inl ⟨rfl, rfl⟩)).tr (f.mono (fun n j z => by omega))
    have s1 : mo_sh u := hS.f f1
    have e45 : ob_i u 103 45 = nI q.2.2.length := by rw [f.2.2.2.2 _ _ (by omega), ob_i_self]
    have e138 : ob_i u 138 (64 * k + i) = nI (q.2.2.getD i 0) := (f1.2.2.2.2 _ _ (by omega)).trans (a4 i hi)
    show B_Mo_toServer_64 (fu + 1) 103 (nI k) (nI i) u = _
    rw [B_Mo_toServer_64, ob_b_e (mo_g s1), e45, if_neg (nI_ge hi (by omega)), ob_b_e (mo_r44 s1), ob_b_e (mo_r42 s1), mo_x64, ob_b_e (mo_a138 s1 (by omega)), e138, ob_b_e (mo_w140 s1 (by omega)), nI_1, Nat.zero_add])
  have s1 := ou.1
  obtain ⟨x, ex, lx, fx⟩ := y_send (g := 0) 0 (h.2.f fu (fun n j a b => by omega)) ou rfl (by omega) a5
  refine ⟨x, ?_, ⟨(h.1.f fu (fun n j a => dV_W a)).f fx (fun n j a b => dL_V b a), lx⟩, fu.ws.tr fx.ls⟩
  rw [ob_b_e (mo_p hS)]
  refine Eq.trans eu ?_
  show B_Mo_toServer_64 (g + 1) 103 (nI k) (nI q.2.2.length) u = _
  rw [B_Mo_toServer_64, ob_b_e (mo_g s1), ou.2.1, if_pos (nI_le (Nat.le_refl _) (by omega)), ob_b_e ex, B_Mo_toServer_107]
theorem y_request (hS : mo_sh t) (h : mo_Sv t v) (hm : mo_Mm t ty code id (some tk) w b2 b1 S P) (hco : code = 1 ∨ code = 3) (e4 : ob_i t 103 4 = now) : ∃ u, B_Mo_toServer_23 103 t = some u ∧ mo_Sv u (sv_answer v code id tk w b2 b1 S P now) ∧ mo_F dSv t u := by
  have g51 := hm.2.2.1
  have hM := h.1.2.2.2.2.2.2
  have hM4 := hM.2.1
  have e103 : ∃ u, B_Mo_toServer_103 103 t = some u ∧ mo_Sv u (sv_do v code id tk w b2 b1 S P now) ∧ mo_F dSv t u := by
    obtain ⟨u, eu, su, fu⟩ := y_handle hS h hm hco e4
    exact ⟨u, by rw [B_Mo_toServer_103, ob_b_e eu, B_Mo_toServer_107], su, fu⟩
  rw [B_Mo_toServer_23, ob_b_e (mo_g hS), g51, ob_b2_e (y_answerOf (nI id) hS hM), sv_answer, am_find]
  cases hi : am_ix (nI id) v.2.2.2.1 0 with
  | none =>
    rw [if_pos (show oI none < 0 by decide)]
    exact e103
  | some k =>
    have hk := (am_ix_lt hi).2
    have hk : k < v.2.2.2.1.length := by omega
    have hq : v.2.2.2.1[k]? = some v.2.2.2.1[k] := List.getElem?_eq_getElem hk
    have an := hM.2.2 k _ hq
    rw [if_neg (show ¬ oI (some k) < 0 from nI_nlt (b := 0) (by omega) (by omega)), ob_b_e (mo_g hS), e4, ob_b_e (mo_r41 hS), ob_b_e (show ob_aI 137 (oI (some k)) t = some (v.2.2.2.1[k]).2.1 from by rw [show oI (some k) = nI k from rfl, mo_a137 hS (by omega), an.2.1])]
    dsimp only
    rw [hq]
    dsimp only
    by_cases c : (100 : Int32) ≤ now - (v.2.2.2.1[k]).2.1
    · rw [if_pos c, if_pos c]
      exact e103
    · rw [if_neg c, if_neg c]
      dsimp only
      rw [hq]
      obtain ⟨u, eu, su, fu⟩ := y_again hS h hq
      refine ⟨u, ?_, su, fu⟩
      rw [ob_b_e (mo_r43 hS), ob_b_e (show ob_aI 139 (oI (some k)) t = some (nI (v.2.2.2.1[k]).2.2.length) from by rw [show oI (some k) = nI k from rfl, mo_a139 hS (by omega), an.2.2.1])]
      exact eu
/-- watcher k has its receipt -/
theorem y_recK {x : sv_W} (hS : mo_sh t) (h : mo_Sv t v) (hx : v.2.2.1[k]? = some x) (hty : ty = 2 ∨ ty = 3) (e49 : ob_i t 103 49 = nI ty) : ∃ u, ((ob_gR 11 7 103 t).bind fun n170 => (ob_wZ n170 ((2 : Int32) + nI k) (0 : Int32) t).bind fun t177 => (ob_gI 11 49 103 t177).bind fun x179 => if ¬ x179 = (3 : Int32) then (ob_gR 11 36 103 t177).bind fun n195 => (ob_aZ n195 (nI k) t177).bind fun x199 => if x199 = 0 then some t177 else (X_Mo_tell 103 (nI k) t177).bind fun t205 => some t205 else (X_Mo_dropWatcher 103 (nI k) t177).bind fun t188 => some t188) = some u ∧ mo_Sv u (sv_recK v ty k) ∧ mo_F dSv t u := by
  have hk := (List.getElem?_eq_some_iff.mp hx).1
  have hv := h
  obtain ⟨⟨h38, h37, h6, hC, hQ, hW, hM⟩, hL⟩ := h
  have hW2 := hW.2.1
  obtain ⟨w1, w2, w3, w4, w5, w6⟩ := hW.2.2 k x hx
  have f1 : mo_F (fun n j => n = 107 ∧ j = 2 + k) t (ob_setI t 107 (2 + k) 0) := mo_F.o ⟨rfl, rfl⟩
  have s1 := hS.f f1
  obtain ⟨T, hT⟩ : ∃ T, T = ob_setI t 107 (2 + k) 0 := ⟨_, rfl⟩
  rw [← hT] at f1 s1
  have W1 : mo_Ws T (v.2.2.1.set k (x.1, x.2.1, x.2.2.1, x.2.2.2.1, none)) := hW.set (f1.mono (fun n j z => Or.inr (Or.inl (by omega)))) hk ⟨(f1.2.2.2.2 _ _ (by omega)).trans w1, (f1.2.2.2.2 _ _ (by omega)).trans w2, (f1.2.2.2.2 _ _ (by omega)).trans w3, (f1.2.2.2.2 _ _ (by omega)).trans w4, by
    show ob_i T 107 (2 + k) = 0
    rw [hT, ob_i_self], w6⟩
  have f1W : mo_F dWs t T := f1.mono (fun n j z => by
    rcases (show k = 0 ∨ k = 1 by omega) with rfl | rfl
    · exact Or.inr (Or.inl (Or.inr (Or.inl (by omega))))
    · exact Or.inr (Or.inr (Or.inr (Or.inl (by omega)))))
  have x1 := hv.1.ws (f1W.mono (fun n j z => Or.inl z)) ((f1.2.2.2.2 _ _ (by omega)).trans h37.1) h37.2 W1
  have l1 := hL.f f1 (fun n j a b => by omega)
  have f1S : mo_F dSv t T := f1W.mono (fun n j z => Or.inl (Or.inr (Or.inr (Or.inl z))))
  have t49 : ob_i T 103 49 = nI ty := (f1.2.2.2.2 _ _ (by omega)).trans e49
  have t135 : ob_i T 135 k = nI x.2.2.2.1 := (f1.2.2.2.2 _ _ (by omega)).trans w4
  rw [ob_b_e (mo_r7 hS), mo_x2, ob_b_e (mo_w107 hS (by omega) (Or.inl rfl)), ← hT, ob_b_e (mo_g s1), t49, sv_recK, hx]
  dsimp only
  rcases hty with rfl | rfl
  · rw [if_pos (show ¬ nI 2 = (3 : Int32) by decide), if_neg (show ¬ (2 : Nat) = 3 by omega), ob_b_e (mo_r36 s1), ob_b_e (mo_a135 s1 (by omega)), t135]
    by_cases c : x.2.2.2.1 = 0
    · rw [if_pos (show nI x.2.2.2.1 = 0 by rw [c]; rfl), if_pos c]
      exact ⟨T, rfl, ⟨x1, l1⟩, f1S⟩
    · have := w6.2.2.2
      rw [if_neg (nI_ne0 (by omega) (by omega)), if_neg c]
      obtain ⟨u, eu, su, fu⟩ := y_tell (v := (v.1, v.2.1, v.2.2.1.set k (x.1, x.2.1, x.2.2.1, x.2.2.2.1, none), v.2.2.2)) (k := k) s1 ⟨x1, l1⟩ (by rw [List.length_set]; exact hk)
      exact ⟨u, by rw [ob_b_e eu], su, f1S.tr fu⟩
  · rw [if_neg (show ¬ ¬ nI 3 = (3 : Int32) from fun z => z rfl), if_pos rfl]
    obtain ⟨u, eu, wu, fu⟩ := y_drop s1 W1 (show k < _ by rw [List.length_set]; exact hk)
    have x2 := x1.ws (fu.mono (fun n j z => Or.inl z)) ((fu.2.2.2.2 _ _ (by omega)).trans x1.2.1.1) x1.2.1.2 wu
    refine ⟨u, by rw [ob_b_e eu], ⟨x2, l1.f fu (fun n j a b => dL_V a (Or.inr (Or.inr (Or.inl b))))⟩, f1S.tr (fu.mono (fun n j z => Or.inl (Or.inr (Or.inr (Or.inl z)))))⟩
theorem y_rec (hS : mo_sh t) (h : mo_Sv t v) (hm : mo_Mm t ty 0 id tok w b2 b1 S P) (hty : ty = 2 ∨ ty = 3) : ∃ u, B_Mo_toServer_135 ob_fu 103 0 t = some u ∧ mo_Sv u (sv_rec v ty 0 id) ∧ mo_F dSv t u := by
  have hW := h.1.2.2.2.2.2.1
  have hW2 := hW.2.1
  have g51 := hm.2.2.1
  have g49 := hm.1
  have hid := hm.2.2.2.2.2.2.2.2.2.1.2.2.1
  have stop : ∀ fu i, v.2.2.1.length ≤ i → i < 100 → B_Mo_toServer_135 (fu + 1) 103 (nI i) t = some t := fun fu i hi hi2 => by
    rw [B_Mo_toServer_135, ob_b_e (mo_g hS), hW.1, if_pos (nI_le hi (by omega))]
  have step : ∀ fu i x, v.2.2.1[i]? = some x → (x.2.2.2.2.map (fun q => q.1) = some id → ∃ u, B_Mo_toServer_135 (fu + 1) 103 (nI i) t = some u ∧ mo_Sv u (sv_recK v ty i) ∧ mo_F dSv t u) ∧ (¬ x.2.2.2.2.map (fun q => q.1) = some id → B_Mo_toServer_135 (fu + 1) 103 (nI i) t = B_Mo_toServer_135 fu 103 (nI (i + 1)) t) := fun fu i x hx => by
    have hi := (List.getElem?_eq_some_iff.mp hx).1
    have wa := hW.2.2 i x hx
    have e107 := wa.2.2.2.2.1.act
    rw [B_Mo_toServer_135, ob_b_e (mo_g hS), hW.1, if_neg (nI_ge hi (by omega)), ob_b_e (mo_r7 hS), mo_x2, ob_b_e (mo_a107 hS (by omega)), e107]
    cases hp : x.2.2.2.2 with
    | none =>
      rw [if_pos (show nI (if (none : Option ap_P) = none then 0 else 1) = 0 from rfl), B_Mo_toServer_209, nI_1]
      exact ⟨fun z => (by cases z), fun _ => rfl⟩
    | some q =>
      have pe := wa.2.2.2.2.1
      rw [hp] at pe
      have hq : q.1 < 65536 := pe.2.2.2.2.2.2.2.1.1
      rw [if_neg (show ¬ nI (if (some q : Option ap_P) = none then 0 else 1) = 0 by rw [if_neg (fun z => by cases z)]; decide), ob_b_e (mo_r8 hS), ob_b_e (mo_a108 hS (by omega)), pe.2.1, ob_b_e (mo_g hS), g51]
      by_cases c : q.1 = id
      · rw [if_neg (show ¬ ¬ nI q.1 = nI id from fun z => z (by rw [c]))]
        refine ⟨fun _ => ?_, fun z => absurd (by rw [← c]; rfl) z⟩
        have := y_recK hS h hx hty g49
        rw [mo_x2] at this
        exact this
      · rw [if_pos (show ¬ nI q.1 = nI id from fun z => c ((nI_eq (by omega) (by omega)).mp z)), B_Mo_toServer_209, nI_1]
        exact ⟨fun z => absurd (by simpa using z) c, fun _ => rfl⟩
  rw [sv_rec, if_pos ⟨rfl, hty⟩]
  show ∃ u, B_Mo_toServer_135 (1997 + 1 + 1 + 1) 103 (nI 0) t = some u ∧ _
  match hWW : v.2.2.1 with
  | [] =>
    rw [wt_pix]
    exact ⟨t, stop _ 0 (by rw [hWW]; simp) (by omega), h, mo_F.rf⟩
  | [x] =>
    obtain ⟨k1, k2⟩ := step (1997 + 1 + 1) 0 x (by rw [hWW]; rfl)
    rw [wt_pix]
    by_cases c : x.2.2.2.2.map (fun q => q.1) = some id
    · rw [if_pos c]
      exact k1 c
    · rw [if_neg c, k2 c, wt_pix]
      exact ⟨t, stop _ 1 (by rw [hWW]; simp) (by omega), h, mo_F.rf⟩
  | [x, y] =>
    obtain ⟨k1, k2⟩ := step (1997 + 1 + 1) 0 x (by rw [hWW]; rfl)
    obtain ⟨k3, k4⟩ := step (1997 + 1) 1 y (by rw [hWW]; rfl)
    rw [wt_pix]
    by_cases c : x.2.2.2.2.map (fun q => q.1) = some id
    · rw [if_pos c]
      exact k1 c
    · rw [if_neg c, k2 c, wt_pix]
      by_cases d : y.2.2.2.2.map (fun q => q.1) = some id
      · rw [if_pos d]
        exact k3 d
      · rw [if_neg d, k4 d, wt_pix]
        exact ⟨t, stop _ 2 (by rw [hWW]; simp) (by omega), h, mo_F.rf⟩
  | x :: y :: z :: W =>
    rw [hWW] at hW2
    simp at hW2
theorem y_toServer (hS : mo_sh t) (h : mo_Sv t v) (hm : mo_Mm t ty code id tok w b2 b1 S P) (htc : code ≠ 0 → ∃ tk, tok = some tk) (e4 : ob_i t 103 4 = now) : ∃ u, X_Mo_toServer 103 t = some u ∧ mo_Sv u (if ty = 0 ∧ (code = 1 ∨ code = 3) then sv_answer v code id (tok.getD 0) w b2 b1 S P now else sv_rec v ty code id) ∧ mo_F dSv t u := by
  have g49 := hm.1
  have g50 := hm.2.1
  have mok := hm.2.2.2.2.2.2.2.2.2.1
  have hty := mok.1
  have hco := mok.2.1
  have e110 : ¬ (ty = 0 ∧ (code = 1 ∨ code = 3)) → ∃ u, B_Mo_toServer_110 103 t = some u ∧ mo_Sv u (sv_rec v ty code id) ∧ mo_F dSv t u := by
    intro hn
    have e126 : (ty = 2 ∨ ty = 3) → ∃ u, B_Mo_toServer_126 103 t = some u ∧ mo_Sv u (sv_rec v ty code id) ∧ mo_F dSv t u := by
      intro ht
      rw [B_Mo_toServer_126, ob_b_e (mo_g hS), g50]
      by_cases c0 : code = 0
      · subst c0
        rw [if_neg (show ¬ ¬ nI 0 = 0 from fun z => z rfl)]
        exact y_rec hS h hm ht
      · rw [if_pos (nI_ne0 (by omega) (by omega)), sv_rec, if_neg (fun z => c0 z.1)]
        exact ⟨t, rfl, h, mo_F.rf⟩
    rw [B_Mo_toServer_110, ob_b_e (mo_g hS), g49]
    by_cases c2 : ty = 2
    · rw [if_pos (show nI ty = (2 : Int32) by rw [c2]; rfl)]
      exact e126 (Or.inl c2)
    · rw [if_neg (show ¬ nI ty = (2 : Int32) from fun z => c2 ((nI_eq (b := 2) (by omega) (by omega)).mp z)), ob_b_e (mo_g hS), g49]
      by_cases c3 : ty = 3
      · rw [if_neg (show ¬ ¬ nI ty = (3 : Int32) from fun z => z (by rw [c3]; rfl))]
        exact e126 (Or.inr c3)
      · rw [if_pos (show ¬ nI ty = (3 : Int32) from fun z => c3 ((nI_eq (b := 3) (by omega) (by omega)).mp z)), sv_rec, if_neg (fun z => by omega)]
        exact ⟨t, rfl, h, mo_F.rf⟩
  rw [X_Mo_toServer, mo_this hS, ob_b_e (mo_g hS), g49]
  by_cases c0 : ty = 0
  · rw [if_neg (show ¬ ¬ nI ty = 0 from fun z => z (by rw [c0]; rfl)), ob_b_e (mo_g hS), g50]
    by_cases cc : code = 1 ∨ code = 3
    · obtain ⟨tk, htk⟩ := htc (by omega)
      subst htk
      rw [if_pos (show ty = 0 ∧ (code = 1 ∨ code = 3) from ⟨c0, cc⟩)]
      have r := y_request hS h hm cc e4
      rcases cc with rfl | rfl
      · rw [if_pos (show nI 1 = (1 : Int32) from rfl)]
        exact r
      · rw [if_neg (show ¬ nI 3 = (1 : Int32) by decide), ob_b_e (mo_g hS), g50, if_neg (show ¬ ¬ nI 3 = (3 : Int32) from fun z => z rfl)]
        exact r
    · rw [if_neg (show ¬ (ty = 0 ∧ (code = 1 ∨ code = 3)) from fun z => cc z.2), if_neg (show ¬ nI code = (1 : Int32) from fun z => cc (Or.inl ((nI_eq (b := 1) (by omega) (by omega)).mp z))), ob_b_e (mo_g hS), g50, if_pos (show ¬ nI code = (3 : Int32) from fun z => cc (Or.inr ((nI_eq (b := 3) (by omega) (by omega)).mp z)))]
      exact e110 (fun z => cc z.2)
  · rw [if_pos (nI_ne0 (by omega) (by omega)), if_neg (show ¬ (ty = 0 ∧ (code = 1 ∨ code = 3)) from fun z => c0 z.1)]
    exact e110 (fun z => c0 z.1)
end YTS

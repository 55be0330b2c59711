/-! LAYER 2, 44: the reference's server tells -/
theorem y_content {t : ob_S} {ct : Nat → List Nat} {r num z last : Nat} {L : List Nat} (o : mo_Out t L last) (h : mo_Ct t 128 129 ct) (hr : r < 4) (hn : num < 100) (hz : z < 2) (hl : L.length ≤ 20) : ∃ u, X_Mo_writeContent 103 (nI r) (nI num) (nI z) t = some u ∧ mo_Out u (L ++ aw_pay (ct r) (num * af_size z) (af_size z)) last ∧ mo_F dW t u := by
  have s0 := o.1
  have e129 := (h r hr).1
  have hl64 := (h r hr).2.2.1
  have hsz := af_size_ok z
  have hfr : num * af_size z ≤ 100 * 32 := Nat.mul_le_mul (by omega) hsz.1
  obtain ⟨hpl, hpe⟩ := aw_pay_e (K := ct r) (st := num * af_size z) (ct := af_size z) (by omega)
  obtain ⟨P, hP⟩ : ∃ P, P = ((ct r).drop (num * af_size z)).take (af_size z) := ⟨_, rfl⟩
  rw [← hP] at hpl hpe
  have hP32 : P.length ≤ 32 := by omega
  have hPb : ∀ x ∈ P, x < 256 := fun x hx => (h r hr).2.2.2 x (by rw [hP] at hx; exact List.mem_of_mem_drop (List.mem_of_mem_take hx))
  have hPg : ∀ i, i < P.length → num * af_size z + i < (ct r).length ∧ P.getD i 0 = (ct r).getD (num * af_size z + i) 0 := by
    intro i hi
    refine ⟨by omega, ?_⟩
    rw [hP, List.getD_eq_getElem?_getD, List.getD_eq_getElem?_getD, List.getElem?_take_of_lt (by omega), List.getElem?_drop]
  have key : ∀ (t' : ob_S) (L' : List Nat), mo_F dW t t' → mo_Out t' L' last → L'.length ≤ 21 → ∃ u, B_Mo_writeContent_25 103 (nI r) (nI num) (nI z) (nI P.length) t' = some u ∧ mo_Out u (L' ++ P) last ∧ mo_F dW t u := by
    intro t' L' ft ot hl'
    obtain ⟨g, u, eu, ou, fu⟩ := mo_wloop (G := fun fu i x => B_Mo_writeContent_28 fu 103 (nI r) (nI num) (nI z) (nI P.length) i x) (P := P) ot (by omega) hPb (fun fu i u u' hi f ew => by
      have s1 : mo_sh u := ot.1.f f
      have hc := (h.f ft (fun j => by omega) (fun j => by omega)).f f (fun j => by omega) (fun j => by omega)
      have e128 := (hc r hr).2.1 (num * af_size z + i) (hPg i hi).1
      rw [← (hPg i hi).2] at e128
      have hb := (hPg i hi).1
      show B_Mo_writeContent_28 (fu + 1) 103 (nI r) (nI num) (nI z) (nI P.length) (nI i) u = _
      rw [B_Mo_writeContent_28, if_neg (nI_ge hi (by omega)), ob_b_e (mo_r28 s1), ob_b2_e (y_size z hz u), pk_mul, mo_x64, nI_add, Nat.add_assoc, ob_b_e (mo_a128 s1 (by omega)), e128, ew, Option.bind_some, nI_1]) ob_fu (by show P.length < 2000; omega)
    refine ⟨u, ?_, ou, ft.tr fu⟩
    rw [B_Mo_writeContent_25]
    refine Eq.trans eu ?_
    show B_Mo_writeContent_28 (g + 1) 103 (nI r) (nI num) (nI z) (nI P.length) (nI P.length) u = _
    rw [B_Mo_writeContent_28, if_pos (nI_le (Nat.le_refl _) (by omega))]
  rw [X_Mo_writeContent, mo_this s0, ob_b_e (mo_r29 s0), ob_b_e (mo_a129 s0 hr), e129, ob_b2_e (y_within _ num z (by omega) (by omega) hz t), ← hpl, hpe]
  by_cases c : P.length = 0
  · rw [if_pos (show nI P.length ≤ 0 from nI_le (b := 0) (by omega) (by omega)), if_pos c]
    obtain ⟨u, q0, q1, q2⟩ := key t L mo_F.rf o (by omega)
    rw [List.eq_nil_of_length_eq_zero c] at q0 q1 ⊢
    exact ⟨u, q0, q1, q2⟩
  · rw [if_neg (nI_nle (by omega) (by omega)), if_neg c]
    obtain ⟨t', e', o', f'⟩ := y_write (v := 255) 255 o rfl (by omega) (by omega)
    rw [ob_b_e e']
    obtain ⟨u, q0, q1, q2⟩ := key t' (L ++ [255]) f' o' (by simp; omega)
    rw [List.append_assoc] at q1
    exact ⟨u, q0, q1, q2⟩
theorem mo_Ws.at {t : ob_S} {W : List sv_W} {k : Nat} (h : mo_Ws t W) (hk : k < W.length) : ∃ x, W[k]? = some x ∧ mo_Wa t k x := ⟨W[k], List.getElem?_eq_getElem hk, h.2.2 k _ (List.getElem?_eq_getElem hk)⟩
theorem dA_V {k n j : Nat} (hk : k < 2) (h : dA k n j) : dV n j := by
  rcases (show k = 0 ∨ k = 1 by omega) with rfl | rfl
  · exact Or.inr (Or.inr (Or.inl (Or.inr (Or.inl h))))
  · exact Or.inr (Or.inr (Or.inl (Or.inr (Or.inr h))))
theorem dA_ne {j k n i : Nat} (h : j ≠ k) (a : dA j n i) : ¬ dA k n i := by
  intro b
  rcases a with a | a | a
  · omega
  · omega
  · omega
/-- what telling watcher k may change -/
abbrev dT (k : Nat) : Nat → Nat → Prop := fun n j => dW n j ∨ dL n j ∨ dA k n j ∨ (n = 103 ∧ (j = 6 ∨ j = 37))
theorem dT_Sv {k n j : Nat} (hk : k < 2) (h : dT k n j) : dSv n j := by
  rcases h with h | h | h | h
  · exact Or.inr (Or.inr h)
  · exact Or.inr (Or.inl h)
  · exact Or.inl (dA_V hk h)
  · exact Or.inl (by omega)
/-- watcher k has been told -/
theorem mo_Sv.told {t w : ob_S} {v : sv_S} {k se nx : Nat} {y : sv_W} {LL : List (List Nat × Nat)} (h : mo_Sv t v) (hk : k < v.2.2.1.length) (f : mo_F (dT k) t w) (e37 : ob_i w 103 37 = nI se) (hse : se < 65536) (e6 : ob_i w 103 6 = nI nx) (hnx : nx < 65536) (hy : mo_Wa w k y) (hl : mo_Li w LL) : mo_Sv w (v.1, v.2.1, v.2.2.1.set k y, v.2.2.2.1, v.2.2.2.2.1, se, nx, LL) := by
  obtain ⟨⟨h38, h37, h6, hC, hQ, hW, hM⟩, hL⟩ := h
  have hW2 := hW.2.1
  refine ⟨⟨(f.2.2.2.2 _ _ (by omega)).trans h38, ⟨e37, hse⟩, ⟨e6, hnx⟩, hC.f f (fun j => by omega) (fun j => by omega), hQ.f f (fun j => by omega) (fun j => by omega), ?_, hM.f f (fun n j a => ?_)⟩, hl⟩
  · show mo_Ws w (v.2.2.1.set k y)
    refine ⟨by rw [List.length_set]; exact (f.2.2.2.2 _ _ (by omega)).trans hW.1, by rw [List.length_set]; exact hW2, fun j z e => ?_⟩
    by_cases d : j = k
    · subst d
      rw [List.getElem?_set_self hk] at e
      cases e
      exact hy
    · rw [List.getElem?_set_ne (fun z => d z.symm)] at e
      refine (hW.2.2 j z e).f f (fun n i a b => ?_)
      rcases b with b | b | b | b
      · omega
      · omega
      · exact dA_ne d a b
      · omega
  · rcases a with a | a <;> omega
theorem y_tellRow {T : ob_S} {ct : Nat → List Nat} (se nx tk r z : Nat) (sT : mo_sh T) (cT : mo_Ct T 128 129 ct) (hse : se < 65536) (hnx : nx < 65536) (htk : tk < 256) (hr : r < 4) (hz : z < 2) : ∃ u1 u2 u3 u4 u5, X_Mo_begin 103 0 69 (nI nx) T = some u1 ∧ X_Mo_write 103 (nI tk) u1 = some u2 ∧ X_Mo_option 103 6 (nI se) u2 = some u3 ∧ X_Mo_option 103 23 (nI (8 * af_more (ct r).length 0 z + z)) u3 = some u4 ∧ X_Mo_writeContent 103 (nI r) 0 (nI z) u4 = some u5 ∧ mo_Out u5 (aw_tell (ct r) tk z se nx) 23 ∧ mo_F dW T u1 ∧ mo_F dW T u2 ∧ mo_F dW T u3 ∧ mo_F dW T u5 := by
  obtain ⟨u1, e1, o1, f1⟩ := y_begin 0 69 nx sT (by omega) (by omega) hnx
  obtain ⟨u2, e2, o2, f2⟩ := y_write (v := nI tk) tk o1 rfl (by simp) htk
  rw [show [64 + 16 * 0 + (if 69 = 0 then 0 else 1), 69, nx / 256, nx % 256] ++ [tk] = aw_begin 0 69 nx tk from rfl] at o2
  obtain ⟨u3, e3, o3, f3⟩ := y_option 6 se o2 (by omega) (by omega) hse (by simp [aw_begin])
  have hml := af_more_lt (ct r).length 0 z
  have q1 := aw_head_len 0 6 (aw_n se)
  have q2 := aw_val_len se
  have q3 := aw_head_len 6 23 (aw_n (8 * af_more (ct r).length 0 z + z))
  have q4 := aw_val_len (8 * af_more (ct r).length 0 z + z)
  obtain ⟨u4, e4, o4, f4⟩ := y_option 23 (8 * af_more (ct r).length 0 z + z) o3 (by omega) (by omega) (by omega) (by
    simp only [List.length_append, aw_begin, List.length_cons, List.length_nil]
    omega)
  have f14 := ((f1.tr f2).tr f3).tr f4
  have c4 := cT.f f14 (fun j => by omega) (fun j => by omega)
  obtain ⟨u5, e5, o5, f5⟩ := y_content (num := 0) (z := z) o4 c4 hr (by omega) hz (by
    simp only [List.length_append, aw_begin, List.length_cons, List.length_nil]
    omega)
  rw [Nat.zero_mul] at o5
  exact ⟨u1, u2, u3, u4, u5, e1, e2, e3, e4, e5, o5, f1, f1.tr f2, (f1.tr f2).tr f3, f14.tr f5⟩
theorem y_rem16 {a : Nat} (h : a < 65536) : (nI a + 1) - (nI a + 1) / 65536 * 65536 = nI ((a + 1) % 65536) := by
  rw [nI_1, show (65536 : Int32) = nI 65536 from rfl, pk_rem (by omega) (by omega) (by omega)]
/-- telling, with nothing under way -/
theorem y_tell0 {t : ob_S} {v : sv_S} {k : Nat} {x : sv_W} (hS : mo_sh t) (h : mo_Sv t v) (hk : k < v.2.2.1.length) (hx : v.2.2.1[k]? = some x) (c : x.2.2.2.2 = none) : ∃ u, X_Mo_tell 103 (nI k) t = some u ∧ mo_Sv u (sv_tell v k) ∧ mo_F (dT k) t u := by
  have hv := h
  obtain ⟨⟨h38, h37, h6, hC, hQ, hW, hM⟩, hL⟩ := h
  have hW2 := hW.2.1
  obtain ⟨w1, w2, w3, w4, w5, w6⟩ := hW.2.2 k x hx
  have e107 := w5.act
  obtain ⟨T, hT⟩ : ∃ T, T = ob_setI (ob_setI t 135 k 0) 103 37 (nI ((v.2.2.2.2.2.1 + 1) % 65536)) := ⟨_, rfl⟩
  have fT : mo_F (fun n j => (n = 135 ∧ j = k) ∨ (n = 103 ∧ j = 37)) t T := by
    rw [hT]
    exact (mo_F.o (by omega)).s (by omega)
  have sT := hS.f fT
  have se : (v.2.2.2.2.2.1 + 1) % 65536 < 65536 := Nat.mod_lt _ (by omega)
  have t37 : ob_i T 103 37 = nI ((v.2.2.2.2.2.1 + 1) % 65536) := by rw [hT, ob_i_self]
  have t6 : ob_i T 103 6 = nI v.2.2.2.2.2.2.1 := (fT.2.2.2.2 _ _ (by omega)).trans h6.1
  have t133 : ob_i T 133 k = nI x.2.1 := (fT.2.2.2.2 _ _ (by omega)).trans w2
  have t134 : ob_i T 134 k = nI x.2.2.1 := (fT.2.2.2.2 _ _ (by omega)).trans w3
  have t132 : ob_i T 132 k = nI x.1 := (fT.2.2.2.2 _ _ (by omega)).trans w1
  have t135 : ob_i T 135 k = nI 0 := by rw [hT, ob_i_n (by omega), ob_i_self]; rfl
  have cT := hC.f fT (fun j => by omega) (fun j => by omega)
  have e37 : ob_i (ob_setI t 135 k 0) 103 37 = nI v.2.2.2.2.2.1 := by rw [ob_i_n (by omega)]; exact h37.1
  have em := y_rem16 h37.2
  have en := y_rem16 h6.2
  have hr := w6.2.1
  have hz := w6.2.2.1
  have hct := cT x.2.1 hr
  have hcl := hct.2.2.1
  obtain ⟨u1, u2, u3, u4, u5, e1, e2, e3, e4, e5, o5, f1, f2, f3, f5⟩ := y_tellRow ((v.2.2.2.2.2.1 + 1) % 65536) v.2.2.2.2.2.2.1 x.1 x.2.1 x.2.2.1 sT cT se h6.2 w6.1 hr hz
  have s1 := sT.f f1
  have s2 := sT.f f2
  have s3 := sT.f f3
  have s5 := sT.f f5
  have hal := aw_tell_len (v.1 x.2.1) x.1 x.2.2.1 ((v.2.2.2.2.2.1 + 1) % 65536) v.2.2.2.2.2.2.1 hz
  obtain ⟨u6, e6, p6, f6⟩ := y_hold (p := 2 + k) v.2.2.2.2.2.2.1 o5 (by omega) h6.2 (by omega)
  have s6 := s5.f f6
  obtain ⟨U, hU⟩ : ∃ U, U = ob_setI u6 103 6 (nI ((v.2.2.2.2.2.2.1 + 1) % 65536)) := ⟨_, rfl⟩
  have fU : mo_F (fun n j => n = 103 ∧ j = 6) u6 U := by
    rw [hU]
    exact mo_F.o ⟨rfl, rfl⟩
  have sU := s6.f fU
  have oU := (o5.f f6 (fun n j a b => by omega)).f fU (fun n j a b => by omega)
  have lU := (((hL.f fT (fun n j a b => by omega)).f f5 (fun n j a b => by omega)).f f6 (fun n j a b => by omega)).f fU (fun n j a b => by omega)
  obtain ⟨w, ew, lw, fw⟩ := y_send (g := 0) 0 lU oU rfl (by omega) (by omega)
  have u5_6 : ob_i u5 103 6 = nI v.2.2.2.2.2.2.1 := (f5.2.2.2.2 _ _ (by omega)).trans t6
  have u6_6 : ob_i u6 103 6 = nI v.2.2.2.2.2.2.1 := (f6.2.2.2.2 _ _ (by omega)).trans u5_6
  have a132 : ob_i u1 132 k = nI x.1 := (f1.2.2.2.2 _ _ (by omega)).trans t132
  have a37 : ob_i u2 103 37 = nI ((v.2.2.2.2.2.1 + 1) % 65536) := (f2.2.2.2.2 _ _ (by omega)).trans t37
  have a129 : ob_i u3 129 x.2.1 = nI (v.1 x.2.1).length := (f3.2.2.2.2 _ _ (by omega)).trans hct.1
  have e8 : (8 : Int32) * nI (af_more (v.1 x.2.1).length 0 x.2.2.1) + nI x.2.2.1 = nI (8 * af_more (v.1 x.2.1).length 0 x.2.2.1 + x.2.2.1) := by
    rw [show (8 : Int32) = nI 8 from rfl, pk_mul, nI_add]
  have ftw : mo_F (dT k) t w := ((((fT.mono (fun n j z => by
    rcases z with z | z
    · exact Or.inr (Or.inr (Or.inl (by omega)))
    · exact Or.inr (Or.inr (Or.inr (by omega))))).tr (f5.mono (fun n j z => Or.inl z))).tr (f6.mono (fun n j z => Or.inr (Or.inr (Or.inl (Or.inr z)))))).tr (fU.mono (fun n j z => Or.inr (Or.inr (Or.inr (by omega)))))).tr (fw.mono (fun n j z => Or.inr (Or.inl z)))
  have g : ∀ n j, (132 ≤ n ∧ n ≤ 135) ∨ (n = 103 ∧ j = 37) → ob_i w n j = ob_i T n j := fun n j hn => by
    rw [fw.2.2.2.2 _ _ (by omega), fU.2.2.2.2 _ _ (by omega), f6.2.2.2.2 _ _ (by omega), f5.2.2.2.2 _ _ (by omega)]
  have pw := (p6.f fU (fun n j a b => by omega)).f fw (fun n j a b => by omega)
  have wy : mo_Wa w k (x.1, x.2.1, x.2.2.1, 0, some (v.2.2.2.2.2.2.1, 4, 4, 0, aw_tell (v.1 x.2.1) x.1 x.2.2.1 ((v.2.2.2.2.2.1 + 1) % 65536) v.2.2.2.2.2.2.1)) := ⟨by rw [g _ _ (by omega)]; exact t132, by rw [g _ _ (by omega)]; exact t133, by rw [g _ _ (by omega)]; exact t134, by rw [g _ _ (by omega)]; exact t135, pw, w6.1, w6.2.1, w6.2.2.1, show 0 < 2 by omega⟩
  have fin := hv.told hk ftw ((g _ _ (by omega)).trans t37) se (by rw [fw.2.2.2.2 _ _ (by omega), hU, ob_i_self]) (Nat.mod_lt _ (by omega)) wy lw
  refine ⟨w, ?_, ?_, ftw⟩
  · rw [X_Mo_tell, mo_this hS, ob_b_e (mo_r7 hS), mo_x2, ob_b_e (mo_a107 hS (by omega)), e107, if_pos (show nI (if x.2.2.2.2 = none then 0 else 1) = 0 by rw [if_pos c]; rfl), ob_b_e (mo_r36 hS), ob_b_e (mo_w135 hS (by omega) (Or.inl rfl)), ob_b_e (mo_g (t := ob_setI t 135 k 0) hS), e37, em, ob_b_e (mo_p (t := ob_setI t 135 k 0) hS), ← hT, ob_b_e (mo_r34 sT), ob_b_e (mo_a133 sT (by omega)), t133, ob_b_e (mo_r35 sT), ob_b_e (mo_a134 sT (by omega)), t134, ob_b_e (mo_g sT), t6, ob_b_e e1, ob_b_e (mo_r33 s1), ob_b_e (mo_a132 s1 (by omega)), a132, ob_b_e e2, ob_b_e (mo_g s2), a37, ob_b_e e3, ob_b_e (mo_r29 s3), ob_b_e (mo_a129 s3 hr), a129, ob_b2_e (show X_Mo_more (nI (v.1 x.2.1).length) 0 (nI x.2.2.1) u3 = some (nI (af_more (v.1 x.2.1).length 0 x.2.2.1), u3) from y_more _ 0 _ (by omega) (by omega) hz u3), e8, ob_b_e e4, ob_b_e e5, ob_b_e (mo_g s5), u5_6, ob_b_e e6, ob_b_e (mo_g s6), u6_6, en, ob_b_e (mo_p s6), ← hU, ob_b_e ew]
  · rw [sv_tell, hx]
    dsimp only
    rw [if_pos c]
    exact fin
theorem y_tell {t : ob_S} {v : sv_S} {k : Nat} (hS : mo_sh t) (h : mo_Sv t v) (hk : k < v.2.2.1.length) : ∃ u, X_Mo_tell 103 (nI k) t = some u ∧ mo_Sv u (sv_tell v k) ∧ mo_F dSv t u := by
  have hv := h
  obtain ⟨⟨h38, h37, h6, hC, hQ, hW, hM⟩, hL⟩ := h
  have hW2 := hW.2.1
  obtain ⟨x, hx, wa⟩ := hW.at hk
  by_cases c : x.2.2.2.2 = none
  · obtain ⟨u, eu, su, fu⟩ := y_tell0 hS hv hk hx c
    exact ⟨u, eu, su, fu.mono (fun n j z => dT_Sv (by omega) z)⟩
  · obtain ⟨w1, w2, w3, w4, w5, w6⟩ := wa
    have e107 := w5.act
    have f1 : mo_F (fun n j => n = 135 ∧ j = k) t (ob_setI t 135 k 1) := mo_F.o ⟨rfl, rfl⟩
    refine ⟨ob_setI t 135 k 1, ?_, ?_, f1.mono (fun n j z => Or.inl (dA_V (k := k) (by omega) (Or.inl (by omega))))⟩
    · rw [X_Mo_tell, mo_this hS, ob_b_e (mo_r7 hS), mo_x2, ob_b_e (mo_a107 hS (by omega)), e107, if_neg (show ¬ nI (if x.2.2.2.2 = none then 0 else 1) = 0 by rw [if_neg c]; decide), ob_b_e (mo_r36 hS), ob_b_e (mo_w135 hS (by omega) (Or.inr rfl))]
    · rw [sv_tell, hx]
      dsimp only
      rw [if_neg c]
      refine ⟨⟨(f1.2.2.2.2 _ _ (by omega)).trans h38, ⟨(f1.2.2.2.2 _ _ (by omega)).trans h37.1, h37.2⟩, ⟨(f1.2.2.2.2 _ _ (by omega)).trans h6.1, h6.2⟩, hC.f f1 (fun j => by omega) (fun j => by omega), hQ.f f1 (fun j => by omega) (fun j => by omega), ?_, hM.f f1 (fun n j a b => by omega)⟩, hL.f f1 (fun n j a b => by omega)⟩
      exact hW.set (f1.mono (fun n j z => Or.inl (by omega))) hk ⟨(f1.2.2.2.2 _ _ (by omega)).trans w1, (f1.2.2.2.2 _ _ (by omega)).trans w2, (f1.2.2.2.2 _ _ (by omega)).trans w3, ob_i_self, w5.f f1 (fun n j a b => by omega), w6.1, w6.2.1, w6.2.2.1, show 1 < 2 by omega⟩
theorem y_tellAll {t : ob_S} {v : sv_S} {r : Nat} (hS : mo_sh t) (h : mo_Sv t v) (hr : r < 4) : ∃ u, X_Mo_tellAll 103 (nI r) t = some u ∧ mo_Sv u (sv_tellAll v r) ∧ mo_F dSv t u := by
  have stop : ∀ (t : ob_S) (v : sv_S) fu k, mo_sh t → mo_Sv t v → v.2.2.1.length ≤ k → k < 100 → B_Mo_tellAll_2 (fu + 1) 103 (nI r) (nI k) t = some t := fun t v fu k hS h hk hk2 => by
    rw [B_Mo_tellAll_2, ob_b_e (mo_g hS), h.1.2.2.2.2.2.1.1, if_pos (nI_le hk (by omega))]
  have step : ∀ (t : ob_S) (v : sv_S) fu k, mo_sh t → mo_Sv t v → k < v.2.2.1.length → ∃ u, B_Mo_tellAll_2 (fu + 1) 103 (nI r) (nI k) t = B_Mo_tellAll_2 fu 103 (nI r) (nI (k + 1)) u ∧ mo_Sv u (sv_tellK r v k) ∧ mo_F dSv t u := fun t v fu k hS h hk => by
    have hW := h.1.2.2.2.2.2.1
    have hW2 := hW.2.1
    obtain ⟨x, hx, wa⟩ := hW.at hk
    have hr2 := wa.2.2.2.2.2.2.1
    rw [B_Mo_tellAll_2, ob_b_e (mo_g hS), hW.1, if_neg (nI_ge hk (by omega)), ob_b_e (mo_r34 hS), ob_b_e (mo_a133 hS (by omega)), wa.2.1, sv_tellK, hx]
    by_cases c : x.2.1 = r
    · obtain ⟨u, eu, su, fu⟩ := y_tell hS h hk
      refine ⟨u, ?_, ?_, fu⟩
      · rw [if_neg (show ¬ ¬ nI x.2.1 = nI r from fun z => z (by rw [c])), ob_b_e eu, B_Mo_tellAll_25, nI_1]
      · rw [if_pos (show Option.map (fun x : sv_W => x.2.1) (some x) = some r by rw [← c]; rfl)]
        exact su
    · refine ⟨t, ?_, ?_, mo_F.rf⟩
      · rw [if_pos (show ¬ nI x.2.1 = nI r from fun z => c ((nI_eq (by omega) (by omega)).mp z)), B_Mo_tellAll_25, nI_1]
      · rw [if_neg (show ¬ Option.map (fun x : sv_W => x.2.1) (some x) = some r from fun z => c (Option.some.inj z))]
        exact h
  have h2l := h.1.2.2.2.2.2.1.2.1
  rw [X_Mo_tellAll, mo_this hS]
  show ∃ u, B_Mo_tellAll_2 (1997 + 1 + 1 + 1) 103 (nI r) (nI 0) t = some u ∧ _
  by_cases c0 : v.2.2.1.length = 0
  · rw [sv_tellAll, sv_tellK_no (v := v) (by omega), sv_tellK_no (by omega)]
    exact ⟨t, stop t v _ 0 hS h (by omega) (by omega), h, mo_F.rf⟩
  · obtain ⟨u1, e1, s1, f1⟩ := step t v (1997 + 1 + 1) 0 hS h (by omega)
    have l1 := sv_tellK_len r v 0
    by_cases c1 : v.2.2.1.length = 1
    · rw [sv_tellAll, sv_tellK_no (v := sv_tellK r v 0) (by omega)]
      exact ⟨u1, by rw [e1]; exact stop u1 _ _ 1 (hS.f f1) s1 (by omega) (by omega), s1, f1⟩
    · obtain ⟨u2, e2, s2, f2⟩ := step u1 _ (1997 + 1) 1 (hS.f f1) s1 (by omega)
      have l2 := sv_tellK_len r (sv_tellK r v 0) 1
      exact ⟨u2, by rw [e1, e2]; exact stop u2 _ _ 2 ((hS.f f1).f f2) s2 (by omega) (by omega), s2, f1.tr f2⟩

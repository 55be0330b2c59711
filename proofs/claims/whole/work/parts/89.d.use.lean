/-! LAYER 2, 52: the reference: get, put, free, change -/
theorem i_nle {x y : Int32} : ¬ x ≤ y ↔ y < x := by
  rw [Int32.le_iff_toInt_le, Int32.lt_iff_toInt_lt]
  omega
theorem sel1 {α : Type} {x y : Int32} {m : Nat} (hy : y = nI m) (B E : α) : (if x < 0 then B else if y < x then B else E) = if in_bad x m then B else E := by
  subst hy
  by_cases c : x < 0
  · rw [if_pos c, if_pos (Or.inl c)]
  · rw [if_neg c]
    by_cases d : nI m < x
    · rw [if_pos d, if_pos (Or.inr d)]
    · rw [if_neg d, if_neg (fun z => z.elim c d)]
theorem sel2 {α : Type} {x y : Int32} {m : Nat} (hy : y = nI m) (B E : α) : (if x < 0 then B else if x ≤ y then E else B) = if in_bad x m then B else E := by
  subst hy
  by_cases c : x < 0
  · rw [if_pos c, if_pos (Or.inl c)]
  · rw [if_neg c]
    by_cases d : nI m < x
    · rw [if_neg (i_nle.mpr d), if_pos (Or.inr d)]
    · have : x ≤ nI m := Classical.byContradiction (fun z => d (i_nle.mp z))
      rw [if_pos this, if_neg (fun z => z.elim c d)]
section YUS
variable {t u : ob_S} {s : st_S} {c : cl_S}
theorem y_useRun {k path szx x : Nat} (s0 : mo_sh u) (hk : k < 2) (e115 : ob_i u 115 k = nI x) (hx : x < 19999) : X_Mo_use 103 (nI k) (nI path) (nI szx) u = (X_Mo_ask 103 (nI k) 1 (ob_setI (ob_setI (ob_setI (ob_setI (ob_setI (ob_setI (ob_setI (ob_setI u 115 k (nI (x + 1))) 116 k (nI ((2 * (x + 1) + k) % 256))) 117 k (nI path)) 118 k (nI szx)) 119 k 0) 122 k 0) 123 k 0) 124 k 0)).bind fun t75 => (ob_gR 11 16 103 t75).bind fun n79 => (ob_aI n79 (nI k) t75).bind fun x83 => some (x83, t75) := by
  have x1 : ((2 : Int32) * nI (x + 1) + nI k) - ((2 : Int32) * nI (x + 1) + nI k) / 256 * 256 = nI ((2 * (x + 1) + k) % 256) := by
    rw [show (2 : Int32) = nI 2 from rfl, pk_mul, nI_add, show (256 : Int32) = nI 256 from rfl, pk_rem (by omega) (by omega) (by omega)]
  have s1 : mo_sh (ob_setI u 115 k (nI (x + 1))) := s0
  have s2 : mo_sh (ob_setI (ob_setI u 115 k (nI (x + 1))) 116 k (nI ((2 * (x + 1) + k) % 256))) := s1
  have s3 : mo_sh (ob_setI (ob_setI (ob_setI u 115 k (nI (x + 1))) 116 k (nI ((2 * (x + 1) + k) % 256))) 117 k (nI path)) := s2
  have s4 : mo_sh (ob_setI (ob_setI (ob_setI (ob_setI u 115 k (nI (x + 1))) 116 k (nI ((2 * (x + 1) + k) % 256))) 117 k (nI path)) 118 k (nI szx)) := s3
  have s5 : mo_sh (ob_setI (ob_setI (ob_setI (ob_setI (ob_setI u 115 k (nI (x + 1))) 116 k (nI ((2 * (x + 1) + k) % 256))) 117 k (nI path)) 118 k (nI szx)) 119 k 0) := s4
  have s6 : mo_sh (ob_setI (ob_setI (ob_setI (ob_setI (ob_setI (ob_setI u 115 k (nI (x + 1))) 116 k (nI ((2 * (x + 1) + k) % 256))) 117 k (nI path)) 118 k (nI szx)) 119 k 0) 122 k 0) := s5
  have s7 : mo_sh (ob_setI (ob_setI (ob_setI (ob_setI (ob_setI (ob_setI (ob_setI u 115 k (nI (x + 1))) 116 k (nI ((2 * (x + 1) + k) % 256))) 117 k (nI path)) 118 k (nI szx)) 119 k 0) 122 k 0) 123 k 0) := s6
  rw [X_Mo_use, mo_this s0, ob_b_e (mo_r15 s0), ob_b_e (mo_a115 s0 hk), e115, nI_1, ob_b_e (mo_w115 s0 hk), ob_b_e (mo_r16 s1), ob_b_e (mo_r15 s1), ob_b_e (mo_a115 s1 hk), ob_i_self, x1, ob_b_e (mo_w116 s1 hk), ob_b_e (mo_r17 s2), ob_b_e (mo_w117 s2 hk), ob_b_e (mo_r18 s3), ob_b_e (mo_w118 s3 hk), ob_b_e (mo_r19 s4), ob_b_e (mo_w119 s4 hk), ob_b_e (mo_r22 s5), ob_b_e (mo_w122 s5 hk (Or.inl rfl)), ob_b_e (mo_r23 s6), ob_b_e (mo_w123 s6 hk), ob_b_e (mo_r24 s7), ob_b_e (mo_w124 s7 hk)]
theorem sl_beg_cg {F : Nat → Nat} {k path szx puts wish : Nat} (h8 : F 8 = k) (j : Nat) : va_up (va_up (va_up (va_up (va_up (va_up (va_up (va_up (va_up (va_up (up11 F) 7 puts) 10 wish) 9 (F 9 + 1)) 3 ((2 * (F 9 + 1) + k) % 256)) 4 path) 5 szx) 6 0) 11 0) 12 0) 13 0 j = sl_beg F path szx puts wish j := by
  subst h8
  by_cases e : j = 13 ∨ j = 12 ∨ j = 11 ∨ j = 6 ∨ j = 5 ∨ j = 4 ∨ j = 3 ∨ j = 9 ∨ j = 10 ∨ j = 7
  · rcases e with rfl | rfl | rfl | rfl | rfl | rfl | rfl | rfl | rfl | rfl <;> simp [sl_beg, va_up]
  · rw [sl_beg, va_up_ne _ _ (by omega), va_up_ne _ _ (by omega), va_up_ne _ _ (by omega), va_up_ne _ _ (by omega), va_up_ne _ _ (by omega), va_up_ne _ _ (by omega), va_up_ne _ _ (by omega), va_up_ne _ _ (by omega), va_up_ne _ _ (by omega), va_up_ne _ _ (by omega), va_up_ne _ _ (by omega), va_up_ne _ _ (by omega), va_up_ne _ _ (by omega), va_up_ne _ _ (by omega), va_up_ne _ _ (by omega), va_up_ne _ _ (by omega), va_up_ne _ _ (by omega), va_up_ne _ _ (by omega), va_up_ne _ _ (by omega), va_up_ne _ _ (by omega)]
    exact up11_ne (by omega)
theorem sl_beg_so {F : Nat → Nat} {k path szx puts wish : Nat} (hk : k < 2) (h8 : F 8 = k) (h34 : puts ≠ 0 → wish = 0) : so_a k (sl_beg F path szx puts wish) := by
  refine ⟨?_, ?_, ?_, ?_⟩
  · simp [sl_beg, va_up, h8]
  · have : sl_beg F path szx puts wish 3 = (2 * (F 9 + 1) + F 8) % 256 := by simp [sl_beg, va_up]
    rw [this, h8]
    omega
  · intro z
    have z : puts ≠ 0 := by simpa [sl_beg, va_up] using z
    simp [sl_beg, va_up, h34 z]
  · intro _
    simp [sl_beg, va_up]
/-- slot k begins to ask -/
theorem y_use {k path szx puts wish : Nat} {B : List Nat} {a : Int32} (hS : mo_sh t) (h : mo_Ci t c) (f : mo_F (dSP k) t u) (hk : k < 2) (hr : mo_Sr u k (va_up (va_up (up11 (c.1 k)) 7 puts) 10 wish) B a) (hok : sl_ok (c.1 k) (c.2.1 k)) (h8 : c.1 k 8 = k) (h1 : path < 5) (h2 : szx < 2) (h3 : puts < 2) (h4 : wish < 2) (h34 : puts ≠ 0 → wish = 0) (h9 : c.1 k 9 < 19999) (hB : B.length ≤ 80) (hB2 : ∀ x ∈ B, x < 256) : ∃ w, X_Mo_use 103 (nI k) (nI path) (nI szx) u = some (nI ((cl_use c k path szx puts wish B).1 k 3), w) ∧ mo_Ci w (cl_use c k path szx puts wish B) ∧ mo_F dCl t w := by
  have s0 := hS.f f
  have e115 : ob_i u 115 k = nI (c.1 k 9) := by
    have := hr.2.1
    rwa [va_up_ne _ _ (by omega), va_up_ne _ _ (by omega), up11_ne (by omega)] at this
  obtain ⟨T, hT⟩ : ∃ T, T = ob_setI (ob_setI (ob_setI (ob_setI (ob_setI (ob_setI (ob_setI (ob_setI u 115 k (nI (c.1 k 9 + 1))) 116 k (nI ((2 * (c.1 k 9 + 1) + k) % 256))) 117 k (nI path)) 118 k (nI szx)) 119 k (nI 0)) 122 k (nI 0)) 123 k (nI 0)) 124 k (nI 0) := ⟨_, rfl⟩
  have rT : mo_Sr T k (sl_beg (c.1 k) path szx puts wish) B a := by
    rw [hT]
    refine ((((((((hr.set 9 115 (c.1 k 9 + 1) (by simp)).set 3 116 ((2 * (c.1 k 9 + 1) + k) % 256) (by simp)).set 4 117 path (by simp)).set 5 118 szx (by simp)).set 6 119 0 (by simp)).set 11 122 0 (by simp)).set 12 123 0 (by simp)).set 13 124 0 (by simp)).cg (fun j _ => ?_)
    exact sl_beg_cg h8 j
  have fT : mo_F (dSP k) t T := by
    rw [hT]
    exact (((((((f.s (by omega)).s (by omega)).s (by omega)).s (by omega)).s (by omega)).s (by omega)).s (by omega)).s (by omega)
  have okB := sl_beg_ok (K := B) hok h1 h2 h3 h4 h9 hB hB2
  have so := sl_beg_so (path := path) (szx := szx) hk h8 h34
  obtain ⟨w, ew, q1, q2⟩ := y_askC (b := 1) (o := c.2.2.1 k) hS h fT hk rT okB so (Or.inl ⟨rfl, by simp [sl_beg, va_up]⟩)
  have sw := hS.f q2
  have e116 : ob_i w 116 k = nI ((cl_use c k path szx puts wish B).1 k 3) := (q1.1 k hk).1.g.2.1
  refine ⟨w, ?_, q1, q2⟩
  rw [y_useRun s0 hk e115 h9]
  have eT : ob_setI (ob_setI (ob_setI (ob_setI (ob_setI (ob_setI (ob_setI (ob_setI u 115 k (nI (c.1 k 9 + 1))) 116 k (nI ((2 * (c.1 k 9 + 1) + k) % 256))) 117 k (nI path)) 118 k (nI szx)) 119 k 0) 122 k 0) 123 k 0) 124 k 0 = T := hT.symm
  rw [eT, ob_b_e (show X_Mo_ask 103 (nI k) 1 T = some w from ew), ob_b_e (mo_r16 sw), ob_b_e (mo_a116 sw hk), e116]
theorem z_Mo_get (h : mo_Cs t s) (a b c d : Int32) (hd : d = 0 ∨ d = 1) (hu : ∀ k, s.1.1 k 9 < 19999) : ∃ u, X_Mo_get 103 a b c d t = some ((st_get s a b c d).1, u) ∧ mo_Cs u (st_get s a b c d).2 ∧ mo_F dAll t u := by
  have hS := h.1
  have bad : B_Mo_get_25 t = some (-1, t) := rfl
  rw [X_Mo_get, mo_this hS, ob_b2_e (y_isSlot a t), sel2 (y := 1) (m := 1) rfl, sel1 (y := 4) (m := 4) rfl, bad, st_get]
  by_cases c1 : in_bad a 1
  · rw [if_pos c1, if_pos rfl, if_pos (Or.inl c1)]
    exact ⟨t, rfl, h, mo_F.rf⟩
  · rw [if_neg c1, if_neg (show ¬ (1 : Int32) = 0 by decide)]
    by_cases c2 : in_bad b 4
    · rw [if_pos c2, if_pos (Or.inr (Or.inl c2))]
      exact ⟨t, rfl, h, mo_F.rf⟩
    · rw [if_neg c2]
      by_cases c3 : in_bad c 1
      · rw [if_pos c3, if_pos (Or.inr (Or.inr c3))]
        exact ⟨t, rfl, h, mo_F.rf⟩
      · rw [if_neg c3, if_neg (fun z => z.elim c1 (fun z => z.elim c2 c3))]
        obtain ⟨k, hk, rfl⟩ := nb_in (by omega) c1
        obtain ⟨path, hp, rfl⟩ := nb_in (by omega) c2
        obtain ⟨szx, hz, rfl⟩ := nb_in (by omega) c3
        obtain ⟨wish, hw, rfl⟩ : ∃ w : Nat, w < 2 ∧ d = nI w := by
          rcases hd with rfl | rfl
          · exact ⟨0, by omega, rfl⟩
          · exact ⟨1, by omega, rfl⟩
        obtain ⟨e114, -, -, ok, so⟩ := (h.2.1.1 k (by omega)).1.g
        have o2 := ok.1
        rw [nI_clamp (by omega), nI_clamp (by omega), nI_clamp (by omega), nI_clamp (by omega), ob_b_e (mo_r14 hS), ob_b_e (mo_a114 hS (by omega)), e114]
        by_cases c4 : s.1.1 k 2 = 0
        · rw [if_pos (show nI (s.1.1 k 2) = 0 by rw [c4]; rfl), if_pos c4]
          obtain ⟨a0, q1, -⟩ := (h.2.1.1 k (by omega)).1
          have r1 : mo_Sr (ob_setI (ob_setI (ob_setI t 120 k (nI 0)) 121 k (nI wish)) 127 k (nI 0)) k (va_up (va_up (up11 (s.1.1 k)) 7 0) 10 wish) ((s.1.2.1 k).take 0) a0 := ((q1.set 7 120 0 (by simp)).set 10 121 wish (by simp)).cut 0 0 (by simp)
          have fU : mo_F (dSP k) t (ob_setI (ob_setI (ob_setI t 120 k (nI 0)) 121 k (nI wish)) 127 k (nI 0)) := ((mo_F.o (by omega)).s (by omega)).s (by omega)
          obtain ⟨w, ew, cw, fw⟩ := y_use (path := path) (szx := szx) (puts := 0) (wish := wish) (B := []) hS h.2.1 fU (by omega) r1 ok so.1 (by omega) (by omega) (by omega) hw (fun z => absurd rfl z) (hu k) (by simp) (fun x hx => by cases hx)
          refine ⟨w, ?_, h.cl fw cw, fw.mono (fun n j z => dCl_all z)⟩
          have hwz : nI wish = 0 ∨ nI wish = 1 := by
            rcases (show wish = 0 ∨ wish = 1 by omega) with rfl | rfl
            · exact Or.inl rfl
            · exact Or.inr rfl
          rw [ob_b_e (mo_r20 hS), ob_b_e (mo_w120 hS (by omega) (Or.inl rfl)), ob_b_e (mo_r21 (t := ob_setI t 120 k 0) hS), ob_b_e (mo_w121 (t := ob_setI t 120 k 0) hS (by omega) hwz), ob_b_e (mo_r27 (t := ob_setI (ob_setI t 120 k 0) 121 k (nI wish)) hS), ob_b_e (mo_w127 (t := ob_setI (ob_setI t 120 k 0) 121 k (nI wish)) hS (by omega)), ob_b2_e (show X_Mo_use 103 (nI k) (nI path) (nI szx) (ob_setI (ob_setI (ob_setI t 120 k 0) 121 k (nI wish)) 127 k 0) = _ from ew)]
        · rw [if_neg (nI_ne0 (by omega) (by omega)), if_neg c4]
          exact ⟨t, rfl, h, mo_F.rf⟩
theorem y_byte (z i : Nat) : (nI z + (5 : Int32) * nI i) &&& 255 = nI ((z + 5 * i) % 256) := by
  rw [show (5 : Int32) = nI 5 from rfl, pk_mul, nI_add, nb_and8]
theorem fl_L_at {n z i : Nat} (hi : i < n) : (fl_L n z).getD i 0 = (z + 5 * i) % 256 := by
  simp [fl_L, List.getD_eq_getElem?_getD, hi]
theorem z_Mo_put (h : mo_Cs t s) (a b c n z : Int32) (hu : ∀ k, s.1.1 k 9 < 19999) : ∃ u, X_Mo_put 103 a b c n z t = some ((st_put s a b c n z).1, u) ∧ mo_Cs u (st_put s a b c n z).2 ∧ mo_F dAll t u := by
  have hS := h.1
  have bad : B_Mo_put_37 t = some (-1, t) := rfl
  rw [X_Mo_put, mo_this hS, ob_b2_e (y_isSlot a t), sel2 (y := 80) (m := 80) rfl, sel1 (y := 1) (m := 1) rfl, sel1 (y := 4) (m := 4) rfl, bad, st_put]
  by_cases c1 : in_bad a 1
  · rw [if_pos c1, if_pos rfl, if_pos (Or.inl (Or.inl c1))]
    exact ⟨t, rfl, h, mo_F.rf⟩
  · rw [if_neg c1, if_neg (show ¬ (1 : Int32) = 0 by decide)]
    by_cases c2 : in_bad b 4
    · rw [if_pos c2, if_pos (Or.inl (Or.inr (Or.inl c2)))]
      exact ⟨t, rfl, h, mo_F.rf⟩
    · rw [if_neg c2]
      by_cases c3 : in_bad c 1
      · rw [if_pos c3, if_pos (Or.inl (Or.inr (Or.inr c3)))]
        exact ⟨t, rfl, h, mo_F.rf⟩
      · rw [if_neg c3]
        by_cases c5 : in_bad n 80
        · rw [if_pos c5, if_pos (Or.inr c5)]
          exact ⟨t, rfl, h, mo_F.rf⟩
        · rw [if_neg c5, if_neg (fun z => z.elim (fun z => z.elim c1 (fun z => z.elim c2 c3)) c5)]
          obtain ⟨k, hk, rfl⟩ := nb_in (by omega) c1
          obtain ⟨path, hp, rfl⟩ := nb_in (by omega) c2
          obtain ⟨szx, hz, rfl⟩ := nb_in (by omega) c3
          obtain ⟨m, hm, rfl⟩ := nb_in (by omega) c5
          obtain ⟨e114, -, -, ok, so⟩ := (h.2.1.1 k (by omega)).1.g
          have o2 := ok.1
          obtain ⟨zz, hzz⟩ : ∃ zz, zz = z.toBitVec.toNat := ⟨_, rfl⟩
          have hz2 : z = nI zz := by rw [hzz]; exact nb_z z
          rw [← hzz, nI_clamp (by omega), nI_clamp (by omega), nI_clamp (by omega), nI_clamp (by omega), ob_b_e (mo_r14 hS), ob_b_e (mo_a114 hS (by omega)), e114]
          by_cases c4 : s.1.1 k 2 = 0
          · rw [if_pos (show nI (s.1.1 k 2) = 0 by rw [c4]; rfl), if_pos c4]
            obtain ⟨a0, q1, -⟩ := (h.2.1.1 k (by omega)).1
            obtain ⟨fl1, fl2⟩ := fl_L_ok m zz
            obtain ⟨T, hT⟩ : ∃ T, T = ob_setI (ob_setI (ob_setI t 120 k (nI 1)) 121 k (nI 0)) 127 k (nI m) := ⟨_, rfl⟩
            have fT : mo_F (fun n j => (n = 120 ∨ n = 121 ∨ n = 127) ∧ j = k) t T := by
              rw [hT]
              exact ((mo_F.o (by omega)).s (by omega)).s (by omega)
            have sT := hS.f fT
            obtain ⟨g, u, eu, fu, vu⟩ := mo_loop (G := fun fu i x => B_Mo_put_76 fu 103 (nI k) (nI path) (nI szx) (nI m) z i x) (dst := 126) (o := 80 * k) (n := m) (val := fun i => nI ((zz + 5 * i) % 256)) (t := T) (fun fu i u hi f => by
              have s1 : mo_sh u := sT.f f
              show B_Mo_put_76 (fu + 1) 103 (nI k) (nI path) (nI szx) (nI m) z (nI i) u = _
              rw [B_Mo_put_76, if_neg (nI_ge hi (by omega)), ob_b_e (mo_r26 s1), mo_x80, hz2, y_byte, ob_b_e (mo_w126 s1 (by omega)), nI_1]) ob_fu (by show m < 2000; omega)
            have r0 := (q1.set 7 120 1 (by simp)).set 10 121 0 (by simp)
            have r1 : mo_Sr u k (va_up (va_up (up11 (s.1.1 k)) 7 1) 10 0) (fl_L m zz) a0 := by
              have g : ∀ n, 114 ≤ n ∧ n ≤ 125 → ob_i u n k = ob_i (ob_setI (ob_setI t 120 k (nI 1)) 121 k (nI 0)) n k := fun n hn => by
                rw [fu.2.2.2.2 _ _ (by omega), hT, ob_i_n (by omega)]
              obtain ⟨h1, h2, h3, h4, h5, h6, h7, h8, h9, h10, h11, h12, h13, h14, h15⟩ := r0
              refine ⟨by rw [g _ (by omega)]; exact h1, by rw [g _ (by omega)]; exact h2, by rw [g _ (by omega)]; exact h3, by rw [g _ (by omega)]; exact h4, by rw [g _ (by omega)]; exact h5, by rw [g _ (by omega)]; exact h6, by rw [g _ (by omega)]; exact h7, by rw [g _ (by omega)]; exact h8, by rw [g _ (by omega)]; exact h9, by rw [g _ (by omega)]; exact h10, by rw [g _ (by omega)]; exact h11, by rw [g _ (by omega)]; exact h12, ?_, fun i hi => ?_, by omega⟩
              · rw [fu.2.2.2.2 _ _ (by omega), hT, ob_i_self, fl1]
              · rw [vu i (by omega), fl_L_at (by omega)]
            have fU : mo_F (dSP k) t u := (fT.mono (fun n j z => by omega)).tr (fu.mono (fun n j z => by omega))
            obtain ⟨w, ew, cw, fw⟩ := y_use (path := path) (szx := szx) (puts := 1) (wish := 0) (B := fl_L m zz) hS h.2.1 fU (by omega) r1 ok so.1 (by omega) (by omega) (by omega) (by omega) (fun _ => rfl) (hu k) (by omega) fl2
            refine ⟨w, ?_, h.cl fw cw, fw.mono (fun n j z => dCl_all z)⟩
            rw [ob_b_e (mo_r20 hS), ob_b_e (mo_w120 hS (by omega) (Or.inr rfl)), ob_b_e (mo_r21 (t := ob_setI t 120 k 1) hS), ob_b_e (mo_w121 (t := ob_setI t 120 k 1) hS (by omega) (Or.inl rfl)), ob_b_e (mo_r27 (t := ob_setI (ob_setI t 120 k 1) 121 k 0) hS), ob_b_e (mo_w127 (t := ob_setI (ob_setI t 120 k 1) 121 k 0) hS (by omega)), show ob_setI (ob_setI (ob_setI t 120 k 1) 121 k 0) 127 k (nI m) = T from hT.symm]
            refine Eq.trans eu ?_
            show B_Mo_put_76 (g + 1) 103 (nI k) (nI path) (nI szx) (nI m) z (nI m) u = _
            rw [B_Mo_put_76, if_pos (nI_le (Nat.le_refl _) (by omega)), ob_b2_e ew]
          · rw [if_neg (nI_ne0 (by omega) (by omega)), if_neg c4]
            exact ⟨t, rfl, h, mo_F.rf⟩
theorem z_Mo_free (h : mo_Cs t s) (a : Int32) : ∃ u, X_Mo_free 103 a t = some ((st_free s a).1, u) ∧ mo_Cs u (st_free s a).2 ∧ mo_F dAll t u := by
  have hS := h.1
  rw [X_Mo_free, mo_this hS, ob_b2_e (y_isSlot a t), st_free]
  by_cases c1 : in_bad a 1
  · rw [if_pos c1, if_neg (fun z => z rfl), if_pos c1]
    exact ⟨t, rfl, h, mo_F.rf⟩
  · rw [if_neg c1, if_pos (show ¬ (1 : Int32) = 0 by decide), if_neg c1]
    obtain ⟨k, hk, rfl⟩ := nb_in (by omega) c1
    obtain ⟨e114, -, -, ok, so⟩ := (h.2.1.1 k (by omega)).1.g
    have o2 := ok.1
    rw [nI_clamp (by omega), ob_b_e (mo_r14 hS), ob_b_e (mo_a114 hS (by omega)), e114]
    by_cases c2 : s.1.1 k 2 = 0
    · rw [if_neg (show ¬ ¬ nI (s.1.1 k 2) = 0 from fun z => z (by rw [c2]; rfl)), if_pos c2]
      exact ⟨t, rfl, h, mo_F.rf⟩
    · rw [if_pos (nI_ne0 (by omega) (by omega)), if_neg c2]
      obtain ⟨a0, hr, -, -, soa⟩ := (h.2.1.1 k (by omega)).1.r c2
      have f1 : mo_F (fun n j => n = 107 ∧ j = k) (ob_setI t 114 k (nI 0)) (ob_setI (ob_setI t 114 k (nI 0)) 107 k 0) := mo_F.o ⟨rfl, rfl⟩
      have r2 := ((hr.set 2 114 0 (by simp)).f f1 (fun n j a b => by omega)).set 11 122 0 (by simp)
      have fU : mo_F (dSP k) t (ob_setI (ob_setI (ob_setI t 114 k (nI 0)) 107 k 0) 122 k (nI 0)) := ((mo_F.o (by omega)).s (by omega)).s (by omega)
      have sl : mo_Sl (ob_setI (ob_setI (ob_setI t 114 k (nI 0)) 107 k 0) 122 k (nI 0)) k (va_up (s.1.1 k) 2 0) (s.1.2.1 k) := by
        refine ⟨a0, ?_, fun z => ?_, ⟨by rw [va_up_self]; omega, ok.2⟩, ?_, fun z => ?_, ?_, ?_⟩
        · rw [up11, if_pos (va_up_self _ _ _)]
          exact r2
        · rw [va_up_self] at z
          omega
        · rw [va_up_ne _ _ (by omega)]; exact so.1
        · exact absurd (va_up_self _ _ _) z
        · rw [va_up_ne _ _ (by omega), va_up_ne _ _ (by omega), va_up_ne _ _ (by omega)]; exact so.2.2.1
        · rw [va_up_ne _ _ (by omega), va_up_ne _ _ (by omega)]; exact so.2.2.2
      have pe : mo_Pe (ob_setI (ob_setI (ob_setI t 114 k (nI 0)) 107 k 0) 122 k (nI 0)) k none := by
        show ob_i _ 107 k = 0
        rw [ob_i_n (by omega), ob_i_self]
      refine ⟨_, ?_, h.cl (fU.mono (fun n j z => by omega)) (h.2.1.st fU (by omega) sl pe), fU.mono (fun n j z => by
        show 103 ≤ n
        omega)⟩
      rw [ob_b_e (mo_r14 hS), ob_b_e (mo_w114 hS (by omega)), ob_b_e (mo_r7 (t := ob_setI t 114 k 0) hS), ob_b_e (mo_w107 (t := ob_setI t 114 k 0) hS (by omega) (Or.inl rfl)), ob_b_e (mo_r22 (t := ob_setI (ob_setI t 114 k 0) 107 k 0) hS), ob_b_e (mo_w122 (t := ob_setI (ob_setI t 114 k 0) 107 k 0) hS (by omega) (Or.inl rfl))]
      rfl
theorem z_Mo_change (h : mo_Cs t s) (a n z : Int32) : ∃ u, X_Mo_change 103 a n z t = some ((st_change s a n z).1, u) ∧ mo_Cs u (st_change s a n z).2 ∧ mo_F dAll t u := by
  have hS := h.1
  have bad : B_Mo_change_19 t = some (-1, t) := rfl
  rw [X_Mo_change, mo_this hS, sel2 (y := 64) (m := 64) rfl, sel1 (y := 3) (m := 3) rfl, bad, st_change]
  by_cases c1 : in_bad a 3
  · rw [if_pos c1, if_pos (Or.inl c1)]
    exact ⟨t, rfl, h, mo_F.rf⟩
  · rw [if_neg c1]
    by_cases c2 : in_bad n 64
    · rw [if_pos c2, if_pos (Or.inr c2)]
      exact ⟨t, rfl, h, mo_F.rf⟩
    · rw [if_neg c2, if_neg (fun z => z.elim c1 c2)]
      obtain ⟨r, hr, rfl⟩ := nb_in (by omega) c1
      obtain ⟨m, hm, rfl⟩ := nb_in (by omega) c2
      obtain ⟨zz, hzz⟩ : ∃ zz, zz = z.toBitVec.toNat := ⟨_, rfl⟩
      have hz2 : z = nI zz := by rw [hzz]; exact nb_z z
      obtain ⟨fl1, fl2⟩ := fl_L_ok m zz
      rw [← hzz, nI_clamp (by omega), nI_clamp (by omega)]
      obtain ⟨g, u, eu, fu, vu⟩ := mo_loop (G := fun fu i x => B_Mo_change_24 fu 103 (nI r) (nI m) z i x) (dst := 128) (o := 64 * r) (n := m) (val := fun i => nI ((zz + 5 * i) % 256)) (t := t) (fun fu i u hi f => by
        have s1 : mo_sh u := hS.f f
        show B_Mo_change_24 (fu + 1) 103 (nI r) (nI m) z (nI i) u = _
        rw [B_Mo_change_24, if_neg (nI_ge hi (by omega)), ob_b_e (mo_r28 s1), mo_x64, hz2, y_byte, ob_b_e (mo_w128 s1 (by omega)), nI_1]) ob_fu (by show m < 2000; omega)
      have s1 := hS.f fu
      obtain ⟨T, hT⟩ : ∃ T, T = ob_setI u 129 r (nI m) := ⟨_, rfl⟩
      have fT : mo_F (fun n j => (n = 129 ∧ j = r) ∨ (n = 128 ∧ 64 * r ≤ j ∧ j < 64 * r + 64)) t T := by
        rw [hT]
        exact (fu.mono (fun n j z => by omega)).s (by omega)
      have sT := hS.f fT
      have vv := h.svv
      have cT : mo_Ct T 128 129 (va_up s.2.1.1 r (fl_L m zz)) := vv.1.2.2.2.1.set fT (by omega) (by rw [hT, ob_i_self, fl1]) (fun i hi => by rw [hT, ob_i_n (by omega), vu i (by omega), fl_L_at (by omega)]) (by omega) fl2
      have fS : mo_F (fun n _ => 128 ≤ n ∧ n ≤ 131) t T := fT.mono (fun n j z => by omega)
      have xT := vv.1.ct fS cT (vv.1.2.2.2.2.1.f fT (fun j => by omega) (fun j => by omega))
      obtain ⟨w, ew, sw, fw⟩ := y_tellAll (r := r) (v := (va_up s.2.1.1 r (fl_L m zz), s.2.1.2)) sT ⟨xT, vv.2.f fT (fun n j a b => by omega)⟩ (by omega)
      have ftw : mo_F dSv t w := (fS.mono (fun n j z => Or.inl (Or.inr (Or.inl z)))).tr fw
      refine ⟨w, ?_, h.sv ftw sw, ftw.mono (fun n j z => dSv_all z)⟩
      refine Eq.trans eu ?_
      show B_Mo_change_24 (g + 1) 103 (nI r) (nI m) z (nI m) u = _
      rw [B_Mo_change_24, if_pos (nI_le (Nat.le_refl _) (by omega)), ob_b_e (mo_r29 s1), ob_b_e (mo_w129 s1 (by omega)), ← hT, ob_b_e ew]
end YUS

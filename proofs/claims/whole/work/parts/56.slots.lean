/-! LAYER 2, 17: the client's ticks and calls -/
noncomputable def cl_passS (c : cl_S) (s : Nat) : cl_S :=
  if (ap_pass (c.2.2.1 s)).1 = 1 then cl_send (cl_set c s (c.1 s) (c.2.1 s) (ap_pass (c.2.2.1 s)).2) (((ap_pass (c.2.2.1 s)).2.map (fun q => q.2.2.2.2)).getD []) 1
  else cl_set c s (if (ap_pass (c.2.2.1 s)).1 = 2 then va_up (c.1 s) 2 3 else c.1 s) (c.2.1 s) (ap_pass (c.2.2.1 s)).2
theorem ap_pass_lt (o : Option ap_P) : (ap_pass o).1 < 3 := by
  unfold ap_pass
  cases o with
  | none => decide
  | some q =>
    dsimp only
    split
    · show 0 < 3; omega
    · split
      · show 2 < 3; omega
      · show 1 < 3; omega
theorem ap_pass1 {o : Option ap_P} (h : (ap_pass o).1 = 1) : ∃ q, (ap_pass o).2 = some q := by
  unfold ap_pass at h ⊢
  cases o with
  | none => cases h
  | some q =>
    dsimp only at h ⊢
    split at h
    · cases h
    · split at h
      · cases h
      · rename_i c1 c2
        rw [if_neg c1, if_neg c2]
        exact ⟨_, rfl⟩
theorem x_passStep {t : ob_S} {c : cl_S} {s fu : Nat} (h : ob_Ci t c) (hs : s < 2) : ∃ u, B_Cl_pass_2 (fu + 1) 36 (nI s) t = B_Cl_pass_2 fu 36 (nI (s + 1)) u ∧ ob_Ci u (cl_passS c s) ∧ ob_Fr cl_P t u := by
  have h2 := h.2.1
  obtain ⟨sl, ok⟩ := h.1 s hs
  obtain ⟨u1, e1, p1, f1⟩ := x_Pe_pass sl.2.2.2.2.1
  have s1 := sl.pe f1 p1
  have F1 : ob_Fr (sl_P (38 + 6 * s)) t u1 := f1.mono (fun q z => by rcases z with z | z | z <;> omega)
  have c1 := h.slot hs F1 s1 ok
  have k1 := c1.2.1
  have hlt := ap_pass_lt (c.2.2.1 s)
  have pre : B_Cl_pass_2 (fu + 1) 36 (nI s) t = if ¬ nI (ap_pass (c.2.2.1 s)).1 = (1 : Int32) then if ¬ nI (ap_pass (c.2.2.1 s)).1 = (2 : Int32) then B_Cl_pass_63 (B_Cl_pass_2 fu) 36 (nI s) u1 else (ob_gR 7 0 36 u1).bind fun n54 => (ob_aR 15 n54 (nI s) u1).bind fun n58 => (ob_pI 6 2 n58 (3 : Int32) u1).bind fun t60 => B_Cl_pass_63 (B_Cl_pass_2 fu) 36 (nI s) t60 else (ob_gR 7 1 36 u1).bind fun n26 => (ob_gR 7 0 36 u1).bind fun n30 => (ob_aR 15 n30 (nI s) u1).bind fun n34 => (ob_gR 6 1 n34 u1).bind fun n35 => (ob_gR 3 0 n35 u1).bind fun n38 => (X_Li_send n26 n38 (1 : Int32) u1).bind fun t42 => B_Cl_pass_63 (B_Cl_pass_2 fu) 36 (nI s) t42 := by
    rw [B_Cl_pass_2, if_neg (show ¬ (2 : Int32) ≤ nI s from nI_ge (b := 2) hs (by omega)), ob_b_e (ob_gR_e h2.1 h2.2.1), ob_b_e (h2.slot hs), ob_b_e (ob_gR_e sl.1 sl.2.2.1), ob_b2_e e1]
  rw [pre, cl_passS]
  by_cases d1 : (ap_pass (c.2.2.1 s)).1 = 1
  · obtain ⟨q, hq⟩ := ap_pass1 d1
    rw [if_neg (show ¬ ¬ nI (ap_pass (c.2.2.1 s)).1 = (1 : Int32) from fun z => z (by rw [d1]; rfl)), if_pos d1]
    rw [hq] at p1 c1 ⊢
    have k1 := c1.2.1
    have q6 := p1.2.2.2.2.2
    dsimp only at q6
    obtain ⟨-, -, -, -, -, qb, qok⟩ := q6
    obtain ⟨v1, v2, v3, L, last, v4⟩ := c1
    obtain ⟨u2, e2, l2, f2⟩ := x_send 1 v3 qb (Or.inr (by omega)) (Or.inr (by omega)) qok.2.2.2.2.2
    refine ⟨u2, ?_, ⟨fun r hr => ⟨(v1 r hr).1.fr f2 (fun q a b => by omega), (v1 r hr).2⟩, v2.fr f2 (by omega) (by omega), l2, L, last, v4.fr f2 (by omega) (by omega) (by omega)⟩, (F1.mono (fun q z => by omega)).tr (f2.mono (fun q z => by omega))⟩
    rw [ob_b_e (ob_gR_e k1.1 k1.2.2.1), ob_b_e (ob_gR_e k1.1 k1.2.1), ob_b_e (k1.slot hs), ob_b_e (ob_gR_e s1.1 s1.2.2.1), ob_b_e (ob_gR_e p1.1 p1.2.1), ob_b_e (show X_Li_send 1 (38 + 6 * s + 4) 1 u1 = some u2 from e2), B_Cl_pass_63, nI_1]
  · rw [if_pos (show ¬ nI (ap_pass (c.2.2.1 s)).1 = (1 : Int32) from fun z => d1 ((nI_eq (b := 1) (by omega) (by omega)).mp z)), if_neg d1]
    by_cases d2 : (ap_pass (c.2.2.1 s)).1 = 2
    · have s2 := s1.set 2 3
      have f2 : ob_Fr (sl_P (38 + 6 * s)) u1 (ob_setI u1 (38 + 6 * s) 2 (nI 3)) := ob_Fr.setI ⟨by omega, by omega⟩
      have ok2 : sl_ok (va_up (c.1 s) 2 3) (c.2.1 s) := by
        obtain ⟨o2, o3⟩ := ok
        exact ⟨by rw [va_up_self]; omega, o3⟩
      rw [if_neg (show ¬ ¬ nI (ap_pass (c.2.2.1 s)).1 = (2 : Int32) from fun z => z (by rw [d2]; rfl)), if_pos d2]
      refine ⟨_, ?_, h.slot hs (F1.tr f2) s2 ok2, (F1.mono (fun q z => by omega)).tr (f2.mono (fun q z => by omega))⟩
      rw [ob_b_e (ob_gR_e k1.1 k1.2.1), ob_b_e (k1.slot hs), ob_b_e (show ob_pI 6 2 (38 + 6 * s) 3 u1 = some (ob_setI u1 (38 + 6 * s) 2 (nI 3)) from ob_pI_e s1.1), B_Cl_pass_63, nI_1]
    · rw [if_pos (show ¬ nI (ap_pass (c.2.2.1 s)).1 = (2 : Int32) from fun z => d2 ((nI_eq (b := 2) (by omega) (by omega)).mp z)), if_neg d2]
      exact ⟨u1, by rw [B_Cl_pass_63, nI_1], c1, F1.mono (fun q z => by omega)⟩
theorem x_Cl_pass {t : ob_S} {c : cl_S} (h : ob_Ci t c) : ∃ u, X_Cl_pass 36 t = some u ∧ ob_Ci u (cl_passS (cl_passS c 0) 1) ∧ ob_Fr cl_P t u := by
  rw [X_Cl_pass, ob_this_e h.2.1.1]
  show ∃ u, B_Cl_pass_2 (1997 + 1 + 1 + 1) 36 (nI 0) t = some u ∧ _
  obtain ⟨u1, e1, c1, f1⟩ := x_passStep (fu := 1997 + 1 + 1) h (s := 0) (by omega)
  obtain ⟨u2, e2, c2, f2⟩ := x_passStep (fu := 1997 + 1) c1 (s := 1) (by omega)
  refine ⟨u2, ?_, c2, f1.tr f2⟩
  rw [e1, e2, B_Cl_pass_2, if_pos (by decide)]
/-! fill -/
def fl_L (count seed : Nat) : List Nat := (List.range count).map (fun i => (seed + 5 * i) % 256)
theorem nb_seed (x : Int32) : ∃ s : Nat, s < 4294967296 ∧ x = nI s := ⟨x.toBitVec.toNat, x.toBitVec.isLt, by
  apply Int32.toBitVec_inj.mp
  show x.toBitVec = BitVec.ofNat 32 x.toBitVec.toNat
  rw [BitVec.ofNat_toNat, BitVec.setWidth_eq]⟩
theorem nb_and8 (m : Nat) : nI m &&& 255 = nI (m % 256) := by
  rw [pk_and (nI m) (m := 255) 8 (by decide)]
  congr 1
  show (BitVec.ofNat 32 m).toNat % 2 ^ 8 = _
  rw [BitVec.toNat_ofNat]
  omega
theorem x_fillLoop {n a m count seed : Nat} (hc : count ≤ m) (hcb : count < 1000) : ∀ (d i fu : Nat) (t : ob_S), i + d = count → d < fu → ob_By t n a m (nb (fl_L i seed)) → ∃ u, B_By_fill_6 fu n (nI count) (nI seed) (nI i) t = some u ∧ ob_By u n a m (nb (fl_L count seed)) ∧ ob_Fr (fun q => q = n ∨ q = a) t u := by
  have len : ∀ i, (fl_L i seed).length = i := fun i => by simp [fl_L]
  intro d
  induction d with
  | zero =>
    intro i fu t hi hf hb
    obtain ⟨fu, rfl⟩ : ∃ z, fu = z + 1 := ⟨fu - 1, by omega⟩
    have e : i = count := by omega
    subst e
    refine ⟨t, ?_, hb, ob_Fr.rf⟩
    rw [B_By_fill_6, if_pos (nI_le (Nat.le_refl _) (by omega))]
  | succ d ih =>
    intro i fu t hi hf hb
    obtain ⟨fu, rfl⟩ : ∃ z, fu = z + 1 := ⟨fu - 1, by omega⟩
    obtain ⟨u1, e1, b1, f1⟩ := x_By_add (nI seed + 5 * nI i) hb (by rw [nb_len, len]; omega)
    have ev : (nI seed + 5 * nI i) &&& 255 = nI ((seed + 5 * i) % 256) := by
      rw [show (5 : Int32) = nI 5 from rfl, pk_mul, nI_add, nb_and8]
    have es : nb (fl_L i seed) ++ [(nI seed + 5 * nI i) &&& 255] = nb (fl_L (i + 1) seed) := by
      rw [ev]
      simp [fl_L, nb, List.range_succ]
    rw [es] at b1
    obtain ⟨u2, e2, b2, f2⟩ := ih (i + 1) fu u1 (by omega) (by omega) b1
    refine ⟨u2, ?_, b2, f1.tr f2⟩
    rw [B_By_fill_6, if_neg (nI_ge (by omega) (by omega)), ob_b_e e1, nI_1]
    exact e2
theorem x_By_fill {t : ob_S} {n a m : Nat} {L : List Int32} (count seed : Nat) (h : ob_By t n a m L) (hc : count ≤ m) : ∃ u, X_By_fill n (nI count) (nI seed) t = some u ∧ ob_By u n a m (nb (fl_L count seed)) ∧ ob_Fr (fun q => q = n ∨ q = a) t u := by
  have hm := h.2.2.2.2.1
  obtain ⟨u1, e1, b1, f1⟩ := x_By_clear h
  obtain ⟨u2, e2, b2, f2⟩ := x_fillLoop (n := n) (a := a) (m := m) (count := count) (seed := seed) hc (by omega) count 0 ob_fu u1 (by omega) (by show count < 2000; omega) b1
  refine ⟨u2, ?_, b2, f1.tr f2⟩
  rw [X_By_fill, ob_this_e h.1, ob_b_e e1]
  exact e2
/-! a slot begins and ends -/
/-- the numbers of a slot that begins -/
def sl_beg (F : Nat → Nat) (path szx puts wish : Nat) : Nat → Nat := va_up (va_up (va_up (va_up (va_up (va_up (va_up (va_up (va_up (va_up F 9 (F 9 + 1)) 3 ((2 * (F 9 + 1) + F 8) % 256)) 4 path) 5 szx) 6 0) 7 puts) 10 wish) 11 0) 12 0) 13 0
theorem x_Sl_begin {t : ob_S} {n : Nat} {F : Nat → Nat} {B : List Nat} {o : Option ap_P} {path szx puts wish : Nat} (h : ob_Sl t n F B o) (ok : sl_ok F B) (hpu : puts < 2) (hw : wish < 2) : ∃ u, X_Sl_begin n (nI path) (nI szx) (nI puts) (nI wish) t = some u ∧ ob_Sl u n (sl_beg F path szx puts wish) [] o ∧ ob_Fr (sl_P n) t u := by
  have o9 := ok.2.2.2.2.2.2.2.1
  have o8 := ok.2.2.2.2.2.2.1
  have z01 : ∀ x, x < 2 → (nI x = 0 ∨ nI x = 1) := fun x hx => by
    rcases (show x = 0 ∨ x = 1 by omega) with rfl | rfl
    · exact Or.inl rfl
    · exact Or.inr rfl
  have fs : ∀ (t : ob_S) (k : Nat) (x : Int32), ob_Fr (sl_P n) t (ob_setI t n k x) := fun t k x => ob_Fr.setI ⟨by omega, by omega⟩
  have s1 := h.set 9 (F 9 + 1)
  have s2 := s1.set 3 ((2 * (F 9 + 1) + F 8) % 256)
  have s3 := s2.set 4 path
  have s4 := s3.set 5 szx
  have s5 := s4.set 6 0
  have s6 := s5.set 7 puts
  have s7 := s6.set 10 wish
  have s8 := s7.set 11 0
  have s9 := s8.set 12 0
  have s10 := s9.set 13 0
  obtain ⟨u, e, b, f⟩ := x_By_clear s10.2.2.2.1
  have s11 := s10.by (B' := []) f b
  have etok : ((2 : Int32) * nI (F 9 + 1) + nI (F 8)) &&& 255 = nI ((2 * (F 9 + 1) + F 8) % 256) := by
    rw [show (2 : Int32) = nI 2 from rfl, pk_mul, nI_add, nb_and8]
  have g9 : ob_gI 6 9 n (ob_setI t n 9 (nI (F 9 + 1))) = some (nI (F 9 + 1)) := ob_gI_e s1.1 ob_i_self
  have g8 : ob_gI 6 8 n (ob_setI t n 9 (nI (F 9 + 1))) = some (nI (F 8)) := ob_gI_e s1.1 (by rw [ob_i_k (by omega)]; exact h.2.2.2.2.2 8 (by omega) (by omega))
  refine ⟨u, ?_, s11, ((((((((((fs _ _ _).tr (fs _ _ _)).tr (fs _ _ _)).tr (fs _ _ _)).tr (fs _ _ _)).tr (fs _ _ _)).tr (fs _ _ _)).tr (fs _ _ _)).tr (fs _ _ _)).tr (fs _ _ _)).tr (f.mono (fun q z => by omega))⟩
  rw [X_Sl_begin, ob_this_e h.1, ob_b_e (ob_gI_e h.1 (h.2.2.2.2.2 9 (by omega) (by omega))), nI_1, ob_b_e (ob_pI_e h.1), ob_b_e g9, ob_b_e g8, etok, ob_b_e (ob_pI_e s1.1), ob_b_e (ob_pI_e s2.1), ob_b_e (ob_pI_e s3.1), ob_b_e (show ob_pI 6 6 n 0 _ = some (ob_setI _ n 6 (nI 0)) from ob_pI_e s4.1), ob_b_e (ob_pZ_e s5.1 (z01 _ hpu)), ob_b_e (ob_pZ_e s6.1 (z01 _ hw)), ob_b_e (show ob_pZ 6 11 n 0 _ = some (ob_setI _ n 11 (nI 0)) from ob_pZ_e s7.1 (Or.inl rfl)), ob_b_e (show ob_pI 6 12 n 0 _ = some (ob_setI _ n 12 (nI 0)) from ob_pI_e s8.1), ob_b_e (show ob_pI 6 13 n 0 _ = some (ob_setI _ n 13 (nI 0)) from ob_pI_e s9.1), ob_b_e (ob_gR_e s10.1 s10.2.1), ob_b_e e]
theorem x_Sl_end {t : ob_S} {n : Nat} {F : Nat → Nat} {B : List Nat} {o : Option ap_P} (h : ob_Sl t n F B o) : ∃ u, X_Sl_end n t = some u ∧ ob_Sl u n (va_up F 2 0) B none ∧ ob_Fr (sl_P n) t u := by
  obtain ⟨u1, e1, p1, f1⟩ := x_Pe_stop h.2.2.2.2.1
  have s1 := h.pe f1 p1
  have s2 := s1.set 2 0
  refine ⟨_, ?_, s2, (f1.mono (fun q z => by rcases z with z | z | z <;> omega)).tr (ob_Fr.setI ⟨by omega, by omega⟩)⟩
  rw [X_Sl_end, ob_this_e h.1, ob_b_e (ob_gR_e h.1 h.2.2.1), ob_b_e e1, ob_b_e (show ob_pI 6 2 n 0 u1 = some (ob_setI u1 n 2 (nI 0)) from ob_pI_e s1.1)]
/-- what a slot tells -/
def sl_tell (F : Nat → Nat) (B : List Nat) (k : Nat) : Nat := if F 2 = 0 then 0 else if k = 0 then F 2 else if k = 1 then F 3 else if k = 2 then F 6 else if k = 3 then B.length else if k = 4 then F 11 else if k = 5 then F 12 else if F 2 = 4 then F 13 else 0
theorem x_Sl_tellOf {t : ob_S} {n : Nat} {F : Nat → Nat} {B : List Nat} {o : Option ap_P} (k : Nat) (hk : k < 7) (h : ob_Sl t n F B o) (ok : sl_ok F B) : X_Sl_tellOf n (nI k) t = some (nI (sl_tell F B k), t) := by
  obtain ⟨h1, h2, h3, h4, h5, h6⟩ := h
  obtain ⟨o2, o3, o4, o5, o6, o7, o8, o9, o10, o11, o12, o13, oB, oB2⟩ := ok
  have ne : ∀ j, j < 7 → k ≠ j → ¬ nI k = nI j := fun j hj z q => z ((nI_eq (by omega) (by omega)).mp q)
  rw [X_Sl_tellOf, ob_this_e h1, ob_b_e (ob_gI_e h1 (h6 2 (by omega) (by omega))), sl_tell]
  by_cases c0 : F 2 = 0
  · rw [if_neg (show ¬ ¬ nI (F 2) = 0 from fun z => z (by rw [c0]; rfl)), if_pos c0]; rfl
  · rw [if_pos (nI_ne0 (by omega) (by omega)), if_neg c0]
    rcases (show k = 0 ∨ k = 1 ∨ k = 2 ∨ k = 3 ∨ k = 4 ∨ k = 5 ∨ k = 6 by omega) with rfl | rfl | rfl | rfl | rfl | rfl | rfl
    · rw [if_pos (by decide), ob_b_e (ob_gI_e h1 (h6 2 (by omega) (by omega)))]; rfl
    · rw [if_neg (by decide), if_pos (by decide), ob_b_e (ob_gI_e h1 (h6 3 (by omega) (by omega)))]; rfl
    · rw [if_neg (by decide), if_neg (by decide), if_pos (by decide), ob_b_e (ob_gI_e h1 (h6 6 (by omega) (by omega)))]; rfl
    · rw [if_neg (by decide), if_neg (by decide), if_neg (by decide), if_pos (by decide), ob_b_e (ob_gR_e h1 h2), ob_b_e (ob_gI_e h4.1 (show ob_i t (n + 1) 1 = nI B.length by rw [h4.2.2.2.2.2.2.1, nb_len]))]; rfl
    · rw [if_neg (by decide), if_neg (by decide), if_neg (by decide), if_neg (by decide), if_pos (by decide), ob_b_e (ob_gI_e h1 (h6 11 (by omega) (by omega)))]
      rcases (show F 11 = 0 ∨ F 11 = 1 by omega) with z | z <;> rw [z] <;> rfl
    · rw [if_neg (by decide), if_neg (by decide), if_neg (by decide), if_neg (by decide), if_neg (by decide), if_pos (by decide), ob_b_e (ob_gI_e h1 (h6 12 (by omega) (by omega)))]; rfl
    · rw [if_neg (by decide), if_neg (by decide), if_neg (by decide), if_neg (by decide), if_neg (by decide), if_neg (by decide), ob_b_e (ob_gI_e h1 (h6 2 (by omega) (by omega)))]
      by_cases c4 : F 2 = 4
      · rw [if_neg (show ¬ ¬ nI (F 2) = (4 : Int32) from fun z => z (by rw [c4]; rfl)), ob_b_e (ob_gI_e h1 (h6 13 (by omega) (by omega))), if_neg (by decide), if_neg (by decide), if_neg (by decide), if_neg (by decide), if_neg (by decide), if_neg (by decide), if_pos c4]
      · rw [if_pos (show ¬ nI (F 2) = (4 : Int32) from fun z => c4 ((nI_eq (b := 4) (by omega) (by omega)).mp z)), if_neg (by decide), if_neg (by decide), if_neg (by decide), if_neg (by decide), if_neg (by decide), if_neg (by decide), if_neg c4]; rfl

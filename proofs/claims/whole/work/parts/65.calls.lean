/-! LAYER 2, 26: the calls, 1 -/
/-- the object itself: 0; its time -/
def ob_Ot (t : ob_S) (tm : Int32) : Prop := ob_is t 0 10 ∧ ob_r t 0 0 = some 1 ∧ ob_r t 0 1 = some 36 ∧ ob_r t 0 2 = some 53 ∧ ob_r t 0 3 = some 96 ∧ ob_i t 0 4 = tm
theorem ob_Ot.fr {P : Nat → Prop} {t u : ob_S} {tm : Int32} (h : ob_Ot t tm) (f : ob_Fr P t u) (hP : ¬ P 0) : ob_Ot u tm := by
  obtain ⟨h1, h2, h3, h4, h5, h6⟩ := h
  have e := f.2.2.2 0 hP
  exact ⟨h1.fr f, by rw [e.2]; exact h2, by rw [e.2]; exact h3, by rw [e.2]; exact h4, by rw [e.2]; exact h5, by rw [e.1]; exact h6⟩
/-- client, server (each with the line), time -/
abbrev st_S : Type := cl_S × sv_S × Int32
def ob_Cs (t : ob_S) (s : st_S) : Prop := ob_Ot t s.2.2 ∧ ob_Ci t s.1 ∧ ob_Sv t s.2.1 ∧ s.2.1.2.2.2.2.2.2.2 = s.1.2.2.2.2 ∧ ∃ F S P, ob_Ms t F S P
abbrev cs_P : Nat → Prop := fun q => q < 103
/-- the client has moved -/
def st_c (s : st_S) (c : cl_S) : st_S := (c, (s.2.1.1, s.2.1.2.1, s.2.1.2.2.1, s.2.1.2.2.2.1, s.2.1.2.2.2.2.1, s.2.1.2.2.2.2.2.1, s.2.1.2.2.2.2.2.2.1, c.2.2.2.2), s.2.2)
/-- the server has moved -/
def st_v (s : st_S) (v : sv_S) : st_S := ((s.1.1, s.1.2.1, s.1.2.2.1, s.1.2.2.2.1, v.2.2.2.2.2.2.2), v, s.2.2)
theorem ob_Cs.cl {t u : ob_S} {s : st_S} {c : cl_S} (h : ob_Cs t s) (f : ob_Fr cl_P t u) (hc : ob_Ci u c) : ob_Cs u (st_c s c) := by
  obtain ⟨h1, h2, h3, h4, F, S, P, h5⟩ := h
  obtain ⟨s1, ⟨a1, a2, a3, a4, a5⟩, s3, s4, s5, s6, s7, ⟨L, last, s8⟩, s9⟩ := h3
  have e := f.2.2.2 53 (by omega)
  exact ⟨h1.fr f (by omega), hc, ⟨s1.fr f e.2 (f.2.2.2 54 (by omega)).2 (f.2.2.2 55 (by omega)).2, ⟨by rw [e.1]; exact a1, by rw [e.1]; exact a2, by rw [e.1]; exact a3, by rw [e.1]; exact a4, a5⟩, s3.fr f (fun r hr => ⟨by omega, by omega⟩), s4.fr f (fun r hr => ⟨by omega, by omega⟩), s5.fr f (fun q a b => by omega), s6.fr f (fun q a b => by omega), hc.2.2.1, ⟨L, last, s8.fr f (by omega) (by omega) (by omega)⟩, s9⟩, rfl, F, S, P, h5.fr f (fun q a b => by omega)⟩
theorem ob_Cs.sv {t u : ob_S} {s : st_S} {v : sv_S} (h : ob_Cs t s) (f : ob_Fr sv_P t u) (hv : ob_Sv u v) : ob_Cs u (st_v s v) := by
  obtain ⟨h1, ⟨c1, c2, c3, L, last, c4⟩, h3, h4, F, S, P, h5⟩ := h
  exact ⟨h1.fr f (by omega), ⟨fun k hk => ⟨(c1 k hk).1.fr f (fun q a b => by omega), (c1 k hk).2⟩, c2.fr f (by omega) (by omega), hv.2.2.2.2.2.2.1, L, last, c4.fr f (by omega) (by omega) (by omega)⟩, hv, rfl, F, S, P, h5.fr f (fun q a b => by omega)⟩
/-- the line alone has moved -/
def st_l (s : st_S) (LL : List (List Nat × Nat)) : st_S := ((s.1.1, s.1.2.1, s.1.2.2.1, s.1.2.2.2.1, LL), (s.2.1.1, s.2.1.2.1, s.2.1.2.2.1, s.2.1.2.2.2.1, s.2.1.2.2.2.2.1, s.2.1.2.2.2.2.2.1, s.2.1.2.2.2.2.2.2.1, LL), s.2.2)
theorem ob_Cs.ln {t u : ob_S} {s : st_S} {LL : List (List Nat × Nat)} (h : ob_Cs t s) (f : ob_Fr (fun q => 1 ≤ q ∧ q < 36) t u) (hl : ob_Li u (ll LL)) : ob_Cs u (st_l s LL) := by
  obtain ⟨c1, c2, c3, L, last, c4⟩ := h.2.1
  have hc : ob_Ci u (s.1.1, s.1.2.1, s.1.2.2.1, s.1.2.2.2.1, LL) := ⟨fun k hk => ⟨(c1 k hk).1.fr f (fun q a b => by omega), (c1 k hk).2⟩, c2.fr f (by omega) (by omega), hl, L, last, c4.fr f (by omega) (by omega) (by omega)⟩
  exact h.cl (f.mono (fun q z => by omega)) hc
theorem x_isWithin (x : Int32) (m : Nat) (hm : m < 2 ^ 31) (t : ob_S) : X_Ob_isWithin x (nI m) t = some (if x < 0 ∨ nI m < x then 0 else 1, t) := by
  rw [X_Ob_isWithin]
  by_cases c1 : x < 0
  · rw [if_pos c1, if_pos (Or.inl c1)]; rfl
  · rw [if_neg c1]
    by_cases c2 : nI m < x
    · rw [if_pos c2, if_pos (Or.inr c2)]; rfl
    · rw [if_neg c2, if_neg (fun z => z.elim c1 c2)]; rfl
/-- a number within 0 .. m -/
theorem nb_in {x : Int32} {m : Nat} (hm : m < 2 ^ 31) (h : ¬ (x < 0 ∨ nI m < x)) : ∃ k, k ≤ m ∧ x = nI k := by
  obtain ⟨k, hk, rfl⟩ := nI_of (fun z => h (Or.inl z))
  refine ⟨k, ?_, rfl⟩
  rcases Nat.lt_or_ge m k with z | z
  · exact absurd (Or.inr (nI_lt z hk)) h
  · exact z
abbrev in_bad (x : Int32) (m : Nat) : Prop := x < 0 ∨ nI m < x
theorem x_isAskable (a b c : Int32) (t : ob_S) : X_Ob_isAskable a b c t = some (if in_bad a 1 ∨ in_bad b 4 ∨ in_bad c 1 then 0 else 1, t) := by
  rw [X_Ob_isAskable, ob_b2_e (show X_Ob_isWithin a 1 t = _ from x_isWithin a 1 (by omega) t)]
  by_cases c1 : in_bad a 1
  · rw [if_pos c1, if_pos rfl, if_pos (Or.inl c1)]; rfl
  · rw [if_neg c1, if_neg (by decide), ob_b2_e (show X_Ob_isWithin b 4 t = _ from x_isWithin b 4 (by omega) t)]
    by_cases c2 : in_bad b 4
    · rw [if_pos c2, if_pos rfl, if_pos (Or.inr (Or.inl c2))]; rfl
    · rw [if_neg c2, if_neg (by decide), ob_b2_e (show X_Ob_isWithin c 1 t = _ from x_isWithin c 1 (by omega) t)]
      by_cases c3 : in_bad c 1
      · rw [if_pos c3, if_pos rfl, if_pos (Or.inr (Or.inr c3))]; rfl
      · rw [if_neg c3, if_neg (by decide), if_neg (fun z => z.elim c1 (fun z => z.elim c2 c3))]; rfl
/-- slot k begins to ask: (B: what it puts) -/
noncomputable def cl_use (c : cl_S) (k path szx puts wish : Nat) (B : List Nat) : cl_S := cl_ask (cl_set c k (sl_beg (c.1 k) path szx puts wish) B (c.2.2.1 k)) k
/-- get -/
noncomputable def st_get (s : st_S) (a b c d : Int32) : Int32 × st_S :=
  if in_bad a 1 ∨ in_bad b 4 ∨ in_bad c 1 then (-1, s)
  else if s.1.1 a.toNatClampNeg 2 = 0 then (nI ((cl_use s.1 a.toNatClampNeg b.toNatClampNeg c.toNatClampNeg 0 d.toNatClampNeg []).1 a.toNatClampNeg 3), st_c s (cl_use s.1 a.toNatClampNeg b.toNatClampNeg c.toNatClampNeg 0 d.toNatClampNeg []))
  else (-2, s)
/-- put -/
noncomputable def st_put (s : st_S) (a b c n z : Int32) : Int32 × st_S :=
  if (in_bad a 1 ∨ in_bad b 4 ∨ in_bad c 1) ∨ in_bad n 80 then (-1, s)
  else if s.1.1 a.toNatClampNeg 2 = 0 then (nI ((cl_use s.1 a.toNatClampNeg b.toNatClampNeg c.toNatClampNeg 1 0 (fl_L n.toNatClampNeg z.toBitVec.toNat)).1 a.toNatClampNeg 3), st_c s (cl_use s.1 a.toNatClampNeg b.toNatClampNeg c.toNatClampNeg 1 0 (fl_L n.toNatClampNeg z.toBitVec.toNat)))
  else (-2, s)
def st_free (s : st_S) (a : Int32) : Int32 × st_S :=
  if in_bad a 1 then (-1, s) else if s.1.1 a.toNatClampNeg 2 = 0 then (-2, s) else (0, st_c s (cl_set s.1 a.toNatClampNeg (va_up (s.1.1 a.toNatClampNeg) 2 0) (s.1.2.1 a.toNatClampNeg) none))
def st_slot (s : st_S) (a b : Int32) : Int32 := if in_bad a 1 ∨ in_bad b 6 then -1 else nI (sl_tell (s.1.1 a.toNatClampNeg) (s.1.2.1 a.toNatClampNeg) b.toNatClampNeg)
/-- a byte of a row, or -1 -/
def rw_at (L : List Nat) (i : Int32) : Int32 := if i < 0 ∨ nI L.length ≤ i then -1 else nI (L.getD i.toNatClampNeg 0)
def st_body (s : st_S) (a i : Int32) : Int32 := if in_bad a 1 then -1 else if s.1.1 a.toNatClampNeg 2 = 0 then -1 else rw_at (s.1.2.1 a.toNatClampNeg) i
theorem rw_at_e {L : List Nat} {i : Int32} (hl : L.length < 2 ^ 31) : (if i < 0 ∨ nI (nb L).length ≤ i then (-1 : Int32) else (nb L).getD i.toNatClampNeg 0) = rw_at L i := by
  rw [rw_at, nb_len]
  by_cases c : i < 0 ∨ nI L.length ≤ i
  · rw [if_pos c, if_pos c]
  · rw [if_neg c, if_neg c]
    obtain ⟨j, hj, rfl⟩ := nI_of (fun q => c (Or.inl q))
    have hlt : j < L.length := Nat.not_le.mp (fun q => c (Or.inr (nI_le q hj)))
    rw [nI_clamp hj]
    simp [nb, List.getD_eq_getElem?_getD, List.getElem?_map, List.getElem?_eq_getElem hlt]
theorem sl_beg_ok {F : Nat → Nat} {B K : List Nat} {path szx puts wish : Nat} (ok : sl_ok F B) (h1 : path < 5) (h2 : szx < 2) (h3 : puts < 2) (h4 : wish < 2) (h5 : F 9 < 19999) (h6 : K.length ≤ 80) (h7 : ∀ x ∈ K, x < 256) : sl_ok (sl_beg F path szx puts wish) K := by
  obtain ⟨o2, o3, o4, o5, o6, o7, o8, o9, o10, o11, o12, o13, oB, oB2⟩ := ok
  unfold sl_beg
  exact ⟨by simpa [va_up] using o2, by simp [va_up]; omega, by simpa [va_up] using h1, by simpa [va_up] using h2, by simp [va_up], by simpa [va_up] using h3, by simpa [va_up] using o8, by simp [va_up]; omega, by simpa [va_up] using h4, by simp [va_up], by simp [va_up], by simp [va_up], h6, h7⟩
section OBG
variable {t : ob_S} {s : st_S}
theorem x_Ob_slot (h : ob_Cs t s) (a b : Int32) : X_Ob_slot 0 a b t = some (st_slot s a b, t) := by
  obtain ⟨g1, g2, g3, g4, g5, g6⟩ := h.1
  have ci := h.2.1
  have k2 := ci.2.1
  rw [X_Ob_slot, ob_this_e g1, ob_b2_e (show X_Ob_isWithin a 1 t = _ from x_isWithin a 1 (by omega) t), st_slot]
  by_cases c1 : in_bad a 1
  · rw [if_pos c1, if_pos rfl, if_pos (Or.inl c1)]; rfl
  · rw [if_neg c1, if_neg (by decide), ob_b2_e (show X_Ob_isWithin b 6 t = _ from x_isWithin b 6 (by omega) t)]
    by_cases c2 : in_bad b 6
    · rw [if_pos c2, if_neg (fun z => z rfl), if_pos (Or.inr c2)]; rfl
    · obtain ⟨k, hk, rfl⟩ := nb_in (by omega) c1
      obtain ⟨m, hm, rfl⟩ := nb_in (by omega) c2
      obtain ⟨sl, ok⟩ := ci.1 k (by omega)
      rw [if_neg c2, if_pos (by decide), ob_b_e (ob_gR_e g1 g3), ob_b_e (ob_gR_e k2.1 k2.2.1), ob_b_e (k2.slot (by omega)), ob_b2_e (x_Sl_tellOf m (by omega) sl ok), if_neg (show ¬ (in_bad (nI k) 1 ∨ in_bad (nI m) 6) from fun z => z.elim c1 c2), nI_clamp (by omega), nI_clamp (by omega)]
theorem x_Ob_body (h : ob_Cs t s) (a i : Int32) : X_Ob_body 0 a i t = some (st_body s a i, t) := by
  obtain ⟨g1, g2, g3, g4, g5, g6⟩ := h.1
  have ci := h.2.1
  have k2 := ci.2.1
  rw [X_Ob_body, ob_this_e g1, ob_b2_e (show X_Ob_isWithin a 1 t = _ from x_isWithin a 1 (by omega) t), st_body]
  by_cases c1 : in_bad a 1
  · rw [if_pos c1, if_pos rfl, if_pos c1]; rfl
  · obtain ⟨k, hk, rfl⟩ := nb_in (by omega) c1
    obtain ⟨sl, ok⟩ := ci.1 k (by omega)
    have o2 := ok.1
    have oB := ok.2.2.2.2.2.2.2.2.2.2.2.2.1
    rw [if_neg c1, if_neg (by decide), ob_b_e (ob_gR_e g1 g3), ob_b_e (ob_gR_e k2.1 k2.2.1), ob_b_e (k2.slot (by omega)), ob_b_e (ob_gI_e sl.1 (sl.2.2.2.2.2 2 (by omega) (by omega))), if_neg c1, nI_clamp (by omega)]
    by_cases c2 : s.1.1 k 2 = 0
    · rw [if_neg (show ¬ ¬ nI (s.1.1 k 2) = 0 from fun z => z (by rw [c2]; rfl)), if_pos c2]; rfl
    · rw [if_pos (nI_ne0 (by omega) (by omega)), ob_b_e (ob_gR_e g1 g3), ob_b_e (ob_gR_e k2.1 k2.2.1), ob_b_e (k2.slot (by omega)), ob_b_e (ob_gR_e sl.1 sl.2.1), ob_b2_e (x_By_byteOrBad i sl.2.2.2.1), if_neg c2, rw_at_e (by omega)]
theorem x_Ob_free (h : ob_Cs t s) (a : Int32) : ∃ u, X_Ob_free 0 a t = some ((st_free s a).1, u) ∧ ob_Cs u (st_free s a).2 ∧ ob_Fr cs_P t u := by
  obtain ⟨g1, g2, g3, g4, g5, g6⟩ := h.1
  have ci := h.2.1
  have k2 := ci.2.1
  rw [X_Ob_free, ob_this_e g1, ob_b2_e (show X_Ob_isWithin a 1 t = _ from x_isWithin a 1 (by omega) t), st_free]
  by_cases c1 : in_bad a 1
  · rw [if_pos c1, if_neg (fun z => z rfl), if_pos c1]
    exact ⟨t, rfl, h, ob_Fr.rf⟩
  · obtain ⟨k, hk, rfl⟩ := nb_in (by omega) c1
    obtain ⟨sl, ok⟩ := ci.1 k (by omega)
    have o2 := ok.1
    rw [if_neg c1, if_pos (by decide), ob_b_e (ob_gR_e g1 g3), ob_b_e (ob_gR_e k2.1 k2.2.1), ob_b_e (k2.slot (by omega)), ob_b_e (ob_gI_e sl.1 (sl.2.2.2.2.2 2 (by omega) (by omega))), if_neg c1, nI_clamp (by omega)]
    by_cases c2 : s.1.1 k 2 = 0
    · rw [if_neg (show ¬ ¬ nI (s.1.1 k 2) = 0 from fun z => z (by rw [c2]; rfl)), if_pos c2]
      exact ⟨t, rfl, h, ob_Fr.rf⟩
    · rw [if_pos (nI_ne0 (by omega) (by omega)), if_neg c2, ob_b_e (ob_gR_e g1 g3), ob_b_e (ob_gR_e k2.1 k2.2.1), ob_b_e (k2.slot (by omega))]
      obtain ⟨u, e, s1, f⟩ := x_Sl_end sl
      have ok2 : sl_ok (va_up (s.1.1 k) 2 0) (s.1.2.1 k) := by
        obtain ⟨q2, q3⟩ := ok
        exact ⟨by rw [va_up_self]; omega, q3⟩
      refine ⟨u, by rw [ob_b_e e], h.cl (f.mono (fun q z => by omega)) (ci.slot (by omega) f s1 ok2), f.mono (fun q z => by omega)⟩
theorem x_Ob_get (h : ob_Cs t s) (a b c d : Int32) (hd : d = 0 ∨ d = 1) (hu : ∀ k, s.1.1 k 9 < 19999) : ∃ u, X_Ob_get 0 a b c d t = some ((st_get s a b c d).1, u) ∧ ob_Cs u (st_get s a b c d).2 ∧ ob_Fr cs_P t u := by
  obtain ⟨g1, g2, g3, g4, g5, g6⟩ := h.1
  have ci := h.2.1
  have k2 := ci.2.1
  rw [X_Ob_get, ob_this_e g1, ob_b2_e (x_isAskable a b c t), st_get]
  by_cases c1 : in_bad a 1 ∨ in_bad b 4 ∨ in_bad c 1
  · rw [if_pos c1, if_neg (fun z => z rfl), if_pos c1]
    exact ⟨t, rfl, h, ob_Fr.rf⟩
  · obtain ⟨k, hk, rfl⟩ := nb_in (x := a) (m := 1) (by omega) (fun z => c1 (Or.inl z))
    obtain ⟨p, hp, rfl⟩ := nb_in (x := b) (m := 4) (by omega) (fun z => c1 (Or.inr (Or.inl z)))
    obtain ⟨z, hz, rfl⟩ := nb_in (x := c) (m := 1) (by omega) (fun z => c1 (Or.inr (Or.inr z)))
    obtain ⟨wi, hwi, rfl⟩ : ∃ w, w < 2 ∧ d = nI w := by
      rcases hd with rfl | rfl
      · exact ⟨0, by omega, rfl⟩
      · exact ⟨1, by omega, rfl⟩
    obtain ⟨sl, ok⟩ := ci.1 k (by omega)
    have o2 := ok.1
    rw [if_neg c1, if_pos (by decide), ob_b_e (ob_gR_e g1 g3), ob_b_e (ob_gR_e k2.1 k2.2.1), ob_b_e (k2.slot (by omega)), ob_b_e (ob_gI_e sl.1 (sl.2.2.2.2.2 2 (by omega) (by omega))), if_neg c1, nI_clamp (by omega), nI_clamp (by omega), nI_clamp (by omega), nI_clamp (by omega)]
    by_cases c2 : s.1.1 k 2 = 0
    · rw [if_pos (show nI (s.1.1 k 2) = 0 by rw [c2]; rfl), if_pos c2]
      obtain ⟨u1, e1, s1, f1⟩ := x_Sl_begin (path := p) (szx := z) (puts := 0) (wish := wi) sl ok (by omega) hwi
      have ok1 := sl_beg_ok (K := []) ok (path := p) (szx := z) (puts := 0) (wish := wi) (by omega) (by omega) (by omega) hwi (hu k) (by simp) (fun x hx => by cases hx)
      have ci1 := ci.slot (s := k) (by omega) f1 s1 ok1
      obtain ⟨u2, e2, ci2, f2⟩ := x_Ci_ask (s := k) ci1 (by omega)
      have F12 : ob_Fr cl_P t u2 := (f1.mono (fun q z => by omega)).tr f2
      have C2 := h.cl F12 ci2
      have g1' := (h.1.fr (f1 : ob_Fr (sl_P (38 + 6 * k)) t u1) (by omega))
      have sl2 := (ci2.1 k (by omega)).1
      refine ⟨u2, ?_, C2, F12.mono (fun q z => by omega)⟩
      rw [ob_b_e (show X_Sl_begin (38 + 6 * k) (nI p) (nI z) 0 (nI wi) t = some u1 from e1), ob_b_e (ob_gR_e g1'.1 g1'.2.2.1), ob_b_e e2, ob_b_e (ob_gI_e sl2.1 (sl2.2.2.2.2.2 3 (by omega) (by omega)))]
      rfl
    · rw [if_neg (nI_ne0 (by omega) (by omega)), if_neg c2]
      exact ⟨t, rfl, h, ob_Fr.rf⟩
end OBG

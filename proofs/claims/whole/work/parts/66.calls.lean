/-! LAYER 2, 27: the calls, 2 -/
section OBH
variable {t : ob_S} {s : st_S}
theorem ll_erase {α β : Type} (f : α → β) : ∀ (l : List α) (k : Nat), (l.eraseIdx k).map f = (l.map f).eraseIdx k
  | [], _ => rfl
  | _ :: _, 0 => rfl
  | a :: l, k + 1 => congrArg (fun z => f a :: z) (ll_erase f l k)
theorem fl_L_ok (n z : Nat) : (fl_L n z).length = n ∧ ∀ x ∈ fl_L n z, x < 256 := by
  refine ⟨by simp [fl_L], fun x hx => ?_⟩
  obtain ⟨i, -, rfl⟩ := List.mem_map.mp hx
  exact Nat.mod_lt _ (by omega)
theorem nb_z (z : Int32) : z = nI z.toBitVec.toNat := by
  obtain ⟨k, hk, rfl⟩ := nb_seed z
  rw [nb_bv hk]
theorem x_Ob_put (h : ob_Cs t s) (a b c n z : Int32) (hu : ∀ k, s.1.1 k 9 < 19999) : ∃ u, X_Ob_put 0 a b c n z t = some ((st_put s a b c n z).1, u) ∧ ob_Cs u (st_put s a b c n z).2 ∧ ob_Fr cs_P t u := by
  obtain ⟨g1, g2, g3, g4, g5, g6⟩ := h.1
  have ci := h.2.1
  have k2 := ci.2.1
  rw [X_Ob_put, ob_this_e g1, ob_b2_e (x_isAskable a b c t), st_put]
  by_cases c1 : in_bad a 1 ∨ in_bad b 4 ∨ in_bad c 1
  · rw [if_pos c1, if_pos rfl, if_pos (Or.inl c1)]
    exact ⟨t, rfl, h, ob_Fr.rf⟩
  · rw [if_neg c1, if_neg (by decide), ob_b2_e (show X_Ob_isWithin n 80 t = _ from x_isWithin n 80 (by omega) t)]
    by_cases c3 : in_bad n 80
    · rw [if_pos c3, if_neg (fun z => z rfl), if_pos (Or.inr c3)]
      exact ⟨t, rfl, h, ob_Fr.rf⟩
    · obtain ⟨k, hk, rfl⟩ := nb_in (x := a) (m := 1) (by omega) (fun z => c1 (Or.inl z))
      obtain ⟨p, hp, rfl⟩ := nb_in (x := b) (m := 4) (by omega) (fun z => c1 (Or.inr (Or.inl z)))
      obtain ⟨y, hy, rfl⟩ := nb_in (x := c) (m := 1) (by omega) (fun z => c1 (Or.inr (Or.inr z)))
      obtain ⟨m, hm, rfl⟩ := nb_in (x := n) (m := 80) (by omega) c3
      obtain ⟨sl, ok⟩ := ci.1 k (by omega)
      have o2 := ok.1
      rw [if_neg c3, if_pos (by decide), ob_b_e (ob_gR_e g1 g3), ob_b_e (ob_gR_e k2.1 k2.2.1), ob_b_e (k2.slot (by omega)), ob_b_e (ob_gI_e sl.1 (sl.2.2.2.2.2 2 (by omega) (by omega))), if_neg (show ¬ ((in_bad (nI k) 1 ∨ in_bad (nI p) 4 ∨ in_bad (nI y) 1) ∨ in_bad (nI m) 80) from fun z => z.elim c1 c3), nI_clamp (by omega), nI_clamp (by omega), nI_clamp (by omega), nI_clamp (by omega)]
      by_cases c2 : s.1.1 k 2 = 0
      · rw [if_pos (show nI (s.1.1 k 2) = 0 by rw [c2]; rfl), if_pos c2]
        obtain ⟨u1, e1, s1, f1⟩ := x_Sl_begin (path := p) (szx := y) (puts := 1) (wish := 0) sl ok (by omega) (by omega)
        obtain ⟨u2, e2, b2, f2⟩ := x_By_fill m z.toBitVec.toNat s1.2.2.2.1 (by omega)
        rw [← nb_z z] at e2
        have s2 := s1.by f2 b2
        obtain ⟨q1, q2⟩ := fl_L_ok m z.toBitVec.toNat
        have ok1 := sl_beg_ok (K := fl_L m z.toBitVec.toNat) ok (path := p) (szx := y) (puts := 1) (wish := 0) (by omega) (by omega) (by omega) (by omega) (hu k) (by omega) q2
        have F1 : ob_Fr (sl_P (38 + 6 * k)) t u2 := f1.tr (f2.mono (fun q z => by omega))
        have ci1 := ci.slot (s := k) (by omega) F1 s2 ok1
        obtain ⟨u3, e3, ci3, f3⟩ := x_Ci_ask (s := k) ci1 (by omega)
        have F13 : ob_Fr cl_P t u3 := (F1.mono (fun q z => by omega)).tr f3
        have C3 := h.cl F13 ci3
        have g1' := (h.1.fr F1 (by omega))
        have sl3 := (ci3.1 k (by omega)).1
        refine ⟨u3, ?_, C3, F13.mono (fun q z => by omega)⟩
        rw [ob_b_e (show X_Sl_begin (38 + 6 * k) (nI p) (nI y) 1 0 t = some u1 from e1), ob_b_e (ob_gR_e s1.1 s1.2.1), ob_b_e e2, ob_b_e (ob_gR_e g1'.1 g1'.2.2.1), ob_b_e e3, ob_b_e (ob_gI_e sl3.1 (sl3.2.2.2.2.2 3 (by omega) (by omega)))]
        rfl
      · rw [if_neg (nI_ne0 (by omega) (by omega)), if_neg c2]
        exact ⟨t, rfl, h, ob_Fr.rf⟩
/-- change -/
noncomputable def st_change (s : st_S) (a n z : Int32) : Int32 × st_S :=
  if in_bad a 3 ∨ in_bad n 64 then (-1, s) else (0, st_v s (sv_tellAll (va_up s.2.1.1 a.toNatClampNeg (fl_L n.toNatClampNeg z.toBitVec.toNat), s.2.1.2) a.toNatClampNeg))
theorem x_Ob_change (h : ob_Cs t s) (a n z : Int32) : ∃ u, X_Ob_change 0 a n z t = some ((st_change s a n z).1, u) ∧ ob_Cs u (st_change s a n z).2 ∧ ob_Fr cs_P t u := by
  obtain ⟨g1, g2, g3, g4, g5, g6⟩ := h.1
  have sv := h.2.2.1
  have sh := sv.1
  rw [X_Ob_change, ob_this_e g1, ob_b2_e (show X_Ob_isWithin a 3 t = _ from x_isWithin a 3 (by omega) t), st_change]
  by_cases c1 : in_bad a 3
  · rw [if_pos c1, if_pos rfl, if_pos (Or.inl c1)]
    exact ⟨t, rfl, h, ob_Fr.rf⟩
  · rw [if_neg c1, if_neg (by decide), ob_b2_e (show X_Ob_isWithin n 64 t = _ from x_isWithin n 64 (by omega) t)]
    by_cases c2 : in_bad n 64
    · rw [if_pos c2, if_neg (fun z => z rfl), if_pos (Or.inr c2)]
      exact ⟨t, rfl, h, ob_Fr.rf⟩
    · obtain ⟨r, hr, rfl⟩ := nb_in (x := a) (m := 3) (by omega) c1
      obtain ⟨m, hm, rfl⟩ := nb_in (x := n) (m := 64) (by omega) c2
      have cb := (sv.2.2.1 r (by omega)).1
      obtain ⟨u1, e1, b1, f1⟩ := x_By_fill m z.toBitVec.toNat cb (by omega)
      rw [← nb_z z] at e1
      have S1 := sv.ct (r := r) (by omega) (f1.mono (fun q z => by omega)) (by rw [show 57 + 4 * r = 56 + 4 * r + 1 by omega]; exact b1) (fl_L_ok m z.toBitVec.toNat).2
      obtain ⟨u2, e2, S2, f2⟩ := x_tellAll (r := r) S1 (by omega)
      have F : ob_Fr sv_P t u2 := (f1.mono (fun q z => by omega)).tr f2
      have g1' := h.1.fr f1 (by omega)
      rw [if_neg c2, if_pos (by decide), ob_b_e (ob_gR_e g1 g4), ob_b_e (ob_gR_e sh.1 sh.2.1), ob_b_e (sv_cont sh (by omega)).1, ob_b_e e1, ob_b_e (ob_gR_e g1'.1 g1'.2.2.2.1), ob_b_e e2, if_neg (show ¬ (in_bad (nI r) 3 ∨ in_bad (nI m) 64) from fun z => z.elim c1 c2), nI_clamp (by omega), nI_clamp (by omega)]
      exact ⟨u2, rfl, h.sv F S2, F.mono (fun q z => by omega)⟩
/-- tick -/
noncomputable def st_tick (s : st_S) : Int32 × st_S :=
  let s1 : st_S := (s.1, s.2.1, s.2.2 + 1)
  let s2 := st_c s1 (cl_passS (cl_passS s1.1 0) 1)
  (s.2.2 + 1, st_v s2 (sv_pass s2.2.1))
theorem x_Ob_tick (h : ob_Cs t s) : ∃ u, X_Ob_tick 0 t = some ((st_tick s).1, u) ∧ ob_Cs u (st_tick s).2 ∧ ob_Fr cs_P t u := by
  obtain ⟨g1, g2, g3, g4, g5, g6⟩ := h.1
  have f0 : ob_Fr (fun q => q = 0) t (ob_setI t 0 4 (s.2.2 + 1)) := ob_Fr.setI rfl
  have h1 : ob_Cs (ob_setI t 0 4 (s.2.2 + 1)) (s.1, s.2.1, s.2.2 + 1) := by
    obtain ⟨-, q2, q3, q4, F, S, P, q5⟩ := h
    exact ⟨⟨g1, g2, g3, g4, g5, ob_i_self⟩, q2.fr f0 (fun q a b => by omega), q3.fr f0 (fun q a => by omega), q4, F, S, P, q5.fr f0 (fun q a b => by omega)⟩
  obtain ⟨u1, e1, c1, f1⟩ := x_Cl_pass h1.2.1
  have h2 := h1.cl f1 c1
  obtain ⟨u2, e2, v2, f2⟩ := x_Se_pass h2.2.2.1
  have h3 := h2.sv f2 v2
  refine ⟨u2, ?_, h3, ((f0.mono (fun q z => by omega)).tr (f1.mono (fun q z => by omega))).tr (f2.mono (fun q z => by omega))⟩
  rw [X_Ob_tick, ob_this_e g1, ob_b_e (ob_gI_e g1 g6), ob_b_e (ob_pI_e g1), ob_b_e (ob_gR_e h1.1.1 h1.1.2.2.1), ob_b_e e1, ob_b_e (ob_gR_e h2.1.1 h2.1.2.2.2.1), ob_b_e e2, ob_b_e (ob_gI_e h3.1.1 h3.1.2.2.2.2.2)]
  rfl
/-- a datagram's place: none where there is none -/
abbrev ln_bad (s : st_S) (k : Int32) : Prop := k < 0 ∨ nI s.1.2.2.2.2.length ≤ k
theorem ln_in {s : st_S} {k : Int32} (hl : s.1.2.2.2.2.length ≤ 16) (h : ¬ ln_bad s k) : ∃ j, j < s.1.2.2.2.2.length ∧ k = nI j := by
  obtain ⟨j, hj, rfl⟩ := nI_of (fun z => h (Or.inl z))
  exact ⟨j, Nat.not_le.mp (fun q => h (Or.inr (nI_le q hj))), rfl⟩
theorem ln_len (h : ob_Cs t s) : s.1.2.2.2.2.length ≤ 16 := by
  have := h.2.1.2.2.1.2.1
  rw [List.length_map] at this
  exact this
theorem x_has (h : ob_Cs t s) (k : Int32) : X_Li_has 1 k t = some (if ln_bad s k then 0 else 1, t) := by
  have := x_Li_has k h.2.1.2.2.1
  rw [List.length_map] at this
  exact this
theorem x_Ob_waiting (h : ob_Cs t s) : X_Ob_waiting 0 t = some (nI s.1.2.2.2.2.length, t) := by
  have hl := h.2.1.2.2.1
  rw [X_Ob_waiting, ob_this_e h.1.1, ob_b_e (ob_gR_e h.1.1 h.1.2.1), ob_b_e (ob_gI_e hl.1.1 hl.2.2.1), List.length_map]
/-- a datagram's row object, its bytes, its end -/
theorem ln_row (h : ob_Cs t s) {k : Nat} (hk : k < s.1.2.2.2.2.length) : ∃ r q, r < 16 ∧ s.1.2.2.2.2[k]? = some q ∧ ob_aR 14 2 (nI k) t = some (4 + 2 * r) ∧ ob_By t (4 + 2 * r) (5 + 2 * r) 48 (nb q.1) ∧ ob_aI 3 (nI k) t = some (nI q.2) := by
  have hl := ln_len h
  obtain ⟨⟨s1, s2, s3, s4, s5, s6, s7⟩, -, -, r, r1, r2, r3, r4, r5⟩ := h.2.1.2.2.1
  have hq : s.1.2.2.2.2[k]? = some s.1.2.2.2.2[k] := List.getElem?_eq_getElem hk
  have hq2 : (ll s.1.2.2.2.2)[k]? = some (nb s.1.2.2.2.2[k].1, nI s.1.2.2.2.2[k].2) := by simp [ll, List.getElem?_map, hq]
  obtain ⟨q1, q2⟩ := r5 k _ hq2
  exact ⟨r k, _, r1 k (by omega), hq, ob_aR_e s4 (by omega) (by omega) (r3 k (by omega)), q1, ob_aI_e s6 (by omega) (by omega) q2⟩
def st_lose (s : st_S) (k : Int32) : Int32 × st_S := if ln_bad s k then (-1, s) else (nI (s.1.2.2.2.2.length - 1), st_l s (s.1.2.2.2.2.eraseIdx k.toNatClampNeg))
theorem x_takeOut (h : ob_Cs t s) {k : Nat} (hk : k < s.1.2.2.2.2.length) : ∃ u, X_Li_takeOut 1 (nI k) t = some u ∧ ob_Cs u (st_l s (s.1.2.2.2.2.eraseIdx k)) ∧ ob_Fr (fun q => 1 ≤ q ∧ q < 36) t u := by
  obtain ⟨u, e, l, f⟩ := x_Li_takeOut (k := k) h.2.1.2.2.1 (by rw [List.length_map]; exact hk)
  have l2 : ob_Li u (ll (s.1.2.2.2.2.eraseIdx k)) := by
    rw [show ll (s.1.2.2.2.2.eraseIdx k) = (ll s.1.2.2.2.2).eraseIdx k from ll_erase _ _ _]
    exact l
  have F : ob_Fr (fun q => 1 ≤ q ∧ q < 36) t u := f.mono (fun q z => by omega)
  exact ⟨u, e, h.ln F l2, F⟩
theorem x_Ob_lose (h : ob_Cs t s) (k : Int32) : ∃ u, X_Ob_lose 0 k t = some ((st_lose s k).1, u) ∧ ob_Cs u (st_lose s k).2 ∧ ob_Fr cs_P t u := by
  rw [X_Ob_lose, ob_this_e h.1.1, ob_b_e (ob_gR_e h.1.1 h.1.2.1), ob_b2_e (x_has h k), st_lose]
  by_cases c : ln_bad s k
  · rw [if_pos c, if_neg (fun z => z rfl), if_pos c]
    exact ⟨t, rfl, h, ob_Fr.rf⟩
  · obtain ⟨j, hj, rfl⟩ := ln_in (ln_len h) c
    have hl := ln_len h
    obtain ⟨u, e, h1, f⟩ := x_takeOut h hj
    have l1 := h1.2.1.2.2.1
    have hlen : (s.1.2.2.2.2.eraseIdx j).length = s.1.2.2.2.2.length - 1 := List.length_eraseIdx_of_lt hj
    rw [if_neg c, if_pos (by decide), ob_b_e (ob_gR_e h.1.1 h.1.2.1), ob_b_e e, ob_b_e (ob_gR_e h1.1.1 h1.1.2.1), ob_b_e (ob_gI_e l1.1.1 l1.2.2.1), if_neg c, nI_clamp (by omega)]
    refine ⟨u, ?_, h1, f.mono (fun q z => by omega)⟩
    rw [List.length_map]
    show some (nI (s.1.2.2.2.2.eraseIdx j).length, u) = _
    rw [hlen]
def st_datagram (s : st_S) (k i : Int32) : Int32 := if ln_bad s k then -1 else if i = -1 then nI (((s.1.2.2.2.2[k.toNatClampNeg]?).map (fun q => q.1.length)).getD 0) else if i = -2 then nI (((s.1.2.2.2.2[k.toNatClampNeg]?).map (fun q => q.2)).getD 0) else rw_at (((s.1.2.2.2.2[k.toNatClampNeg]?).map (fun q => q.1)).getD []) i
theorem x_Ob_datagram (h : ob_Cs t s) (k i : Int32) : X_Ob_datagram 0 k i t = some (st_datagram s k i, t) := by
  have hl1 := h.2.1.2.2.1.1
  rw [X_Ob_datagram, ob_this_e h.1.1, ob_b_e (ob_gR_e h.1.1 h.1.2.1), ob_b2_e (x_has h k), st_datagram]
  by_cases c : ln_bad s k
  · rw [if_pos c, if_neg (fun z => z rfl), if_pos c]
  · obtain ⟨j, hj, rfl⟩ := ln_in (ln_len h) c
    have hl := ln_len h
    obtain ⟨r, q, hr, hq, ga, hb, ge⟩ := ln_row h hj
    have lq : q.1.length ≤ 48 := by have := hb.2.2.2.2.2.1; rw [nb_len] at this; exact this
    rw [if_neg c, if_pos (by decide), if_neg c, nI_clamp (by omega), hq]
    by_cases c1 : i = -1
    · rw [if_neg (fun z => z c1), if_pos c1, ob_b_e (ob_gR_e h.1.1 h.1.2.1), ob_b_e (ob_gR_e hl1.1 hl1.2.1), ob_b_e ga, ob_b_e (ob_gI_e hb.1 (show ob_i t (4 + 2 * r) 1 = nI q.1.length by rw [hb.2.2.2.2.2.2.1, nb_len]))]; rfl
    · rw [if_pos c1, if_neg c1]
      by_cases c2 : i = -2
      · rw [if_neg (fun z => z c2), if_pos c2, ob_b_e (ob_gR_e h.1.1 h.1.2.1), ob_b_e (ob_gR_e hl1.1 hl1.2.2.1), ob_b_e ge]; rfl
      · rw [if_pos c2, if_neg c2, ob_b_e (ob_gR_e h.1.1 h.1.2.1), ob_b_e (ob_gR_e hl1.1 hl1.2.1), ob_b_e ga, ob_b2_e (x_By_byteOrBad i hb), rw_at_e (by omega)]; rfl
def st_content (s : st_S) (a i : Int32) : Int32 := if in_bad a 3 then -1 else if i = -1 then nI (s.2.1.1 a.toNatClampNeg).length else rw_at (s.2.1.1 a.toNatClampNeg) i
theorem x_Ob_content (h : ob_Cs t s) (a i : Int32) : X_Ob_content 0 a i t = some (st_content s a i, t) := by
  have sv := h.2.2.1
  have sh := sv.1
  rw [X_Ob_content, ob_this_e h.1.1, ob_b2_e (show X_Ob_isWithin a 3 t = _ from x_isWithin a 3 (by omega) t), st_content]
  by_cases c1 : in_bad a 3
  · rw [if_pos c1, if_neg (fun z => z rfl), if_pos c1]
  · obtain ⟨r, hr, rfl⟩ := nb_in (x := a) (m := 3) (by omega) c1
    have cb := (sv.2.2.1 r (by omega)).1
    have lq : (s.2.1.1 r).length ≤ 64 := by have := cb.2.2.2.2.2.1; rw [nb_len] at this; exact this
    rw [if_neg c1, if_pos (by decide), ob_b_e (ob_gR_e h.1.1 h.1.2.2.2.1), ob_b_e (ob_gR_e sh.1 sh.2.1), ob_b_e (sv_cont sh (by omega)).1, if_neg c1, nI_clamp (by omega)]
    by_cases c2 : i = -1
    · rw [if_neg (fun z => z c2), if_pos c2, ob_b_e (ob_gI_e cb.1 (show ob_i t (56 + 4 * r) 1 = nI (s.2.1.1 r).length by rw [cb.2.2.2.2.2.2.1, nb_len]))]
    · rw [if_pos c2, if_neg c2, ob_b2_e (x_By_byteOrBad i cb), rw_at_e (by omega)]
def st_server (s : st_S) (a : Int32) : Int32 := if a = 0 then s.2.1.2.2.2.2.1 else if a = 1 then nI s.2.1.2.2.1.length else if a = 2 then nI s.2.1.2.2.2.2.2.1 else if a = 3 then nI ((s.2.1.2.1 0).length + (s.2.1.2.1 1).length + (s.2.1.2.1 2).length + (s.2.1.2.1 3).length) else -1
theorem x_Ob_server (h : ob_Cs t s) (a : Int32) : X_Ob_server 0 a t = some (st_server s a, t) := by
  have sv := h.2.2.1
  have sh := sv.1
  obtain ⟨a1, a2, a3, a4, a5⟩ := sv.2.1
  rw [X_Ob_server, ob_this_e h.1.1, st_server]
  by_cases c0 : a = 0
  · rw [if_pos c0, if_pos c0, ob_b_e (ob_gR_e h.1.1 h.1.2.2.2.1), ob_b_e (ob_gI_e sh.1 a1)]
  · rw [if_neg c0, if_neg c0]
    by_cases c1 : a = 1
    · rw [if_pos c1, if_pos c1, ob_b_e (ob_gR_e h.1.1 h.1.2.2.2.1), ob_b_e (ob_gI_e sh.1 a2)]
    · rw [if_neg c1, if_neg c1]
      by_cases c2 : a = 2
      · rw [if_pos c2, if_pos c2, ob_b_e (ob_gR_e h.1.1 h.1.2.2.2.1), ob_b_e (ob_gI_e sh.1 a3)]
      · rw [if_neg c2, if_neg c2]
        by_cases c3 : a = 3
        · rw [if_pos c3, if_pos c3, ob_b_e (ob_gR_e h.1.1 h.1.2.2.2.1), ob_b2_e (x_lengthOfParts sv)]
        · rw [if_neg c3, if_neg c3]
end OBH

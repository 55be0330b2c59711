/-! LAYER 2, 28: the calls, 3: repeat, spoil -/
theorem x_Li_sendOwn {t : ob_S} {LL : List (List Int32 × Int32)} {k n : Nat} {q : List Int32 × Int32} (h : ob_Li t LL) (hq : LL[k]? = some q) (hn : ob_r t 2 k = some n) : ∃ u, X_Li_send 1 n q.2 t = some u ∧ ob_Li u (if LL.length < 16 then LL ++ [q] else LL) ∧ ob_Fr (fun q => 1 ≤ q ∧ q < 36) t u := by
  obtain ⟨g1, g2, g3, r, r1, r2, r3, r4, r5⟩ := h
  have hkl : k < LL.length := (List.getElem?_eq_some_iff.mp hq).1
  by_cases hc : LL.length < 16
  · rw [if_pos hc]
    have hr := r1 _ hc
    have hrk := r1 k (by omega)
    have hne0 : r k ≠ r LL.length := fun z => by have := r2 k LL.length (by omega) hc z; omega
    have en : n = 4 + 2 * r k := Option.some.inj (hn.symm.trans (r3 k (by omega)))
    subst en
    obtain ⟨hK, -⟩ := r5 k q hq
    have hl : q.1.length ≤ 48 := hK.2.2.2.2.2.1
    obtain ⟨L, hL⟩ := r4 (r LL.length) hr
    obtain ⟨u1, e1, b1, f1⟩ := x_By_become hL hK (by omega) (by omega) hl
    have g1' := g1
    obtain ⟨s1, s2, s3, s4, s5, s6, s7⟩ := g1'
    have hnp : ∀ q, q < 4 → ¬ (q = 4 + 2 * r LL.length ∨ q = 5 + 2 * r LL.length) := fun q hq z => by omega
    have p1 := g1.fr f1 (f1.2.2.2 1 (hnp 1 (by omega))).2
    have p1' := p1
    obtain ⟨t1, t2, t3, t4, t5, t6, t7⟩ := p1'
    have c1 : ob_i u1 1 2 = nI LL.length := by rw [(f1.2.2.2 1 (hnp 1 (by omega))).1]; exact g3
    have y1 : ob_is (ob_setI u1 3 LL.length q.2) 1 1 := t1
    have y2 : ob_i (ob_setI u1 3 LL.length q.2) 1 2 = nI LL.length := by rw [ob_i_n (by decide)]; exact c1
    have F : ob_Fr (fun q => q = 1 ∨ q = 3) u1 (ob_setI (ob_setI u1 3 LL.length q.2) 1 2 (nI (LL.length + 1))) := (ob_Fr.setI (Or.inr rfl)).tr (ob_Fr.setI (Or.inl rfl))
    refine ⟨ob_setI (ob_setI u1 3 LL.length q.2) 1 2 (nI (LL.length + 1)), ?_, ⟨p1, by rw [List.length_append]; exact hc, by rw [ob_i_self, List.length_append]; rfl, r, r1, r2, fun k hk => ?_, fun k hk => ?_, fun k y hy => ?_⟩, (f1.mono (fun q z => by omega)).tr (F.mono (fun q z => by omega))⟩
    · rw [X_Li_send, ob_this_e s1, ob_b_e (ob_gI_e s1 g3), if_neg (show ¬ (16 : Int32) ≤ nI LL.length from nI_ge (b := 16) hc (by omega)), ob_b_e (ob_gR_e s1 s2), ob_b_e (ob_gI_e s1 g3), ob_b_e (ob_aR_e s4 (by omega) (by omega) (r3 _ hc)), ob_b_e e1, ob_b_e (ob_gR_e t1 t3), ob_b_e (ob_gI_e t1 c1), ob_b_e (ob_wI_e t6 (by omega) (by omega)), ob_b_e (ob_gI_e y1 y2), ob_b_e (ob_pI_e y1), nI_1]
    · show ob_r u1 2 k = _
      rw [(f1.2.2.2 2 (hnp 2 (by omega))).2]
      exact r3 k hk
    · by_cases hkr : k = r LL.length
      · subst hkr
        exact ⟨q.1, b1.fr F (by omega) (by omega)⟩
      · obtain ⟨L2, hL2⟩ := r4 k hk
        exact ⟨L2, (hL2.fr f1 (by omega) (by omega)).fr F (by omega) (by omega)⟩
    · by_cases hkl : k < LL.length
      · rw [List.getElem?_append_left hkl] at hy
        obtain ⟨q1, q2⟩ := r5 k y hy
        have hne : r k ≠ r LL.length := fun z => by have := r2 k LL.length (by omega) hc z; omega
        refine ⟨(q1.fr f1 (by omega) (by omega)).fr F (by omega) (by omega), ?_⟩
        rw [ob_i_n (by decide), ob_i_k (by omega), (f1.2.2.2 3 (hnp 3 (by omega))).1]
        exact q2
      · rw [List.getElem?_append_right (by omega)] at hy
        have hk0 : k - LL.length < 1 := (List.getElem?_eq_some_iff.mp hy).1
        have hk : k = LL.length := by omega
        subst hk
        rw [Nat.sub_self] at hy
        cases hy
        exact ⟨b1.fr F (by omega) (by omega), by rw [ob_i_n (by decide), ob_i_self]⟩
  · rw [if_neg hc]
    refine ⟨t, ?_, ⟨g1, g2, g3, r, r1, r2, r3, r4, r5⟩, ob_Fr.rf⟩
    rw [X_Li_send, ob_this_e g1.1, ob_b_e (ob_gI_e g1.1 g3), if_pos (show (16 : Int32) ≤ nI LL.length from nI_le (a := 16) (b := LL.length) (by omega) (by omega))]
section OBI
variable {t : ob_S} {s : st_S}
def st_repeat (s : st_S) (k : Int32) : Int32 × st_S := if ln_bad s k then (-1, s) else match s.1.2.2.2.2[k.toNatClampNeg]? with
  | none => (-1, s)
  | some q => (nI (af_send s.1.2.2.2.2 q.1 q.2).length, st_l s (af_send s.1.2.2.2.2 q.1 q.2))
theorem x_Ob_repeat (h : ob_Cs t s) (k : Int32) : ∃ u, X_Ob_repeat 0 k t = some ((st_repeat s k).1, u) ∧ ob_Cs u (st_repeat s k).2 ∧ ob_Fr cs_P t u := by
  have li := h.2.1.2.2.1
  have hl1 := li.1
  rw [X_Ob_repeat, ob_this_e h.1.1, ob_b_e (ob_gR_e h.1.1 h.1.2.1), ob_b2_e (x_has h k), st_repeat]
  by_cases c : ln_bad s k
  · rw [if_pos c, if_neg (fun z => z rfl), if_pos c]
    exact ⟨t, rfl, h, ob_Fr.rf⟩
  · obtain ⟨j, hj, rfl⟩ := ln_in (ln_len h) c
    have hl := ln_len h
    obtain ⟨r, q, hr, hq, ga, hb, ge⟩ := ln_row h hj
    have hq2 : (ll s.1.2.2.2.2)[j]? = some (nb q.1, nI q.2) := by simp [ll, List.getElem?_map, hq]
    have hn : ob_r t 2 j = some (4 + 2 * r) := by
      obtain ⟨-, -, -, r', r1, r2, r3, r4, r5⟩ := li
      have e2 := ob_aR_e hl1.2.2.2.1 (by rw [hl1.2.2.2.2.1]; omega) (by rw [hl1.2.2.2.2.1]; omega) (r3 j (by omega))
      rw [r3 j (by omega)]
      exact e2.symm.trans ga
    obtain ⟨u, e, l, f⟩ := x_Li_sendOwn li hq2 hn
    have l2 : ob_Li u (ll (af_send s.1.2.2.2.2 q.1 q.2)) := by
      rw [List.length_map] at l
      unfold af_send
      by_cases hc : s.1.2.2.2.2.length < 16
      · rw [if_pos hc] at l ⊢
        rw [show ll (s.1.2.2.2.2 ++ [(q.1, q.2)]) = ll s.1.2.2.2.2 ++ [(nb q.1, nI q.2)] by simp [ll]]
        exact l
      · rw [if_neg hc] at l ⊢
        exact l
    have h1 := h.ln f l2
    have li1 := h1.2.1.2.2.1
    rw [if_neg c, if_pos (by decide), if_neg c, nI_clamp (by omega), hq]
    refine ⟨u, ?_, h1, f.mono (fun q z => by omega)⟩
    rw [ob_b_e (ob_gR_e h.1.1 h.1.2.1), ob_b_e (ob_gR_e h.1.1 h.1.2.1), ob_b_e (ob_gR_e hl1.1 hl1.2.1), ob_b_e ga, ob_b_e (ob_gR_e h.1.1 h.1.2.1), ob_b_e (ob_gR_e hl1.1 hl1.2.2.1), ob_b_e ge, ob_b_e e, ob_b_e (ob_gR_e h1.1.1 h1.1.2.1), ob_b_e (ob_gI_e li1.1.1 li1.2.2.1), List.length_map]
    rfl
theorem nb_xor {a b : Nat} (ha : a < 256) (hb : b < 256) : nI a ^^^ nI b = nI (a ^^^ b) ∧ a ^^^ b < 256 := by
  have h : a ^^^ b < 2 ^ 8 := Nat.xor_lt_two_pow ha hb
  refine ⟨?_, h⟩
  apply Int32.toBitVec_inj.mp
  apply BitVec.eq_of_toNat_eq
  rw [Int32.toBitVec_xor, BitVec.toNat_xor, pk_tn (by omega), pk_tn (by omega), pk_tn (by omega)]
/-- the datagram k with the byte i other -/
def ln_sp (LL : List (List Nat × Nat)) (k i b : Nat) : List (List Nat × Nat) := match LL[k]? with
  | none => LL
  | some q => LL.set k (q.1.set i (q.1.getD i 0 ^^^ b), q.2)
def st_spoil (s : st_S) (k i b : Int32) : Int32 × st_S := if ln_bad s k then (0, s) else if i < 0 ∨ nI (((s.1.2.2.2.2[k.toNatClampNeg]?).map (fun q => q.1.length)).getD 0) ≤ i then (0, s) else if in_bad b 255 then (0, s) else (1, st_l s (ln_sp s.1.2.2.2.2 k.toNatClampNeg i.toNatClampNeg b.toNatClampNeg))
theorem x_Ob_spoil (h : ob_Cs t s) (k i b : Int32) (hby : ∀ q ∈ s.1.2.2.2.2, ∀ x ∈ q.1, x < 256) : ∃ u, X_Ob_spoil 0 k i b t = some ((st_spoil s k i b).1, u) ∧ ob_Cs u (st_spoil s k i b).2 ∧ ob_Fr cs_P t u := by
  have li := h.2.1.2.2.1
  have hl1 := li.1
  rw [X_Ob_spoil, ob_this_e h.1.1, ob_b_e (ob_gR_e h.1.1 h.1.2.1), ob_b2_e (x_has h k), st_spoil]
  by_cases c : ln_bad s k
  · rw [if_pos c, if_pos rfl, if_pos c]
    exact ⟨t, rfl, h, ob_Fr.rf⟩
  · obtain ⟨j, hj, rfl⟩ := ln_in (ln_len h) c
    have hl := ln_len h
    obtain ⟨r, q, hr, hq, ga, hb, ge⟩ := ln_row h hj
    have lq : q.1.length ≤ 48 := by have := hb.2.2.2.2.2.1; rw [nb_len] at this; exact this
    have hh := x_By_has i hb
    rw [nb_len] at hh
    rw [if_neg c, if_neg (by decide), ob_b_e (ob_gR_e h.1.1 h.1.2.1), ob_b_e (ob_gR_e hl1.1 hl1.2.1), ob_b_e ga, ob_b2_e hh, if_neg c, nI_clamp (by omega), hq, show ((some q).map (fun q : List Nat × Nat => q.1.length)).getD 0 = q.1.length from rfl]
    by_cases c2 : i < 0 ∨ nI q.1.length ≤ i
    · rw [if_pos c2, if_pos rfl, if_pos c2]
      exact ⟨t, rfl, h, ob_Fr.rf⟩
    · rw [if_neg c2, if_neg (by decide), ob_b2_e (show X_Ob_isWithin b 255 t = _ from x_isWithin b 255 (by omega) t), if_neg c2]
      by_cases c3 : in_bad b 255
      · rw [if_pos c3, if_neg (fun z => z rfl), if_pos c3]
        exact ⟨t, rfl, h, ob_Fr.rf⟩
      · obtain ⟨m, hm, rfl⟩ := nI_of (fun z => c2 (Or.inl z))
        have hml : m < q.1.length := Nat.not_le.mp (fun z => c2 (Or.inr (nI_le z hm)))
        obtain ⟨y, hy, rfl⟩ := nb_in (x := b) (m := 255) (by omega) c3
        have hx : q.1.getD m 0 < 256 := by
          rw [List.getD_eq_getElem?_getD, List.getElem?_eq_getElem hml]
          exact hby q (List.mem_of_getElem? hq) _ (List.getElem_mem hml)
        obtain ⟨ex, -⟩ := nb_xor hx (show y < 256 by omega)
        have ge2 : ob_aI (5 + 2 * r) (nI m) t = some (nI (q.1.getD m 0)) := by
          have e := hb.2.2.2.2.2.2.2 m (by rw [nb_len]; exact hml)
          have e2 : (nb q.1)[m]? = some (nI (q.1.getD m 0)) := by simp [nb, List.getElem?_map, List.getElem?_eq_getElem hml]
          rw [e2] at e
          exact ob_aI_e hb.2.2.1 (by rw [hb.2.2.2.1]; omega) (by rw [hb.2.2.2.1]; omega) (Option.some.inj e).symm
        have f : ob_Fr (fun q => q = 5 + 2 * r) t (ob_setI t (5 + 2 * r) m (nI (q.1.getD m 0 ^^^ y))) := ob_Fr.setI rfl
        have F : ob_Fr (fun q => 1 ≤ q ∧ q < 36) t (ob_setI t (5 + 2 * r) m (nI (q.1.getD m 0 ^^^ y))) := f.mono (fun q z => by omega)
        have hb2 : ob_By (ob_setI t (5 + 2 * r) m (nI (q.1.getD m 0 ^^^ y))) (4 + 2 * r) (5 + 2 * r) 48 (nb (q.1.set m (q.1.getD m 0 ^^^ y))) := by
          obtain ⟨d1, d2, d3, d4, d5, d6, d7, d8⟩ := hb
          refine ⟨d1, d2, d3, d4, d5, by rw [nb_len, List.length_set]; exact lq, by rw [ob_i_n (by omega), nb_len, List.length_set, d7, nb_len], fun z hz => ?_⟩
          rw [nb_len, List.length_set] at hz
          by_cases ez : z = m
          · subst ez
            rw [ob_i_self]
            show ((q.1.set z (q.1.getD z 0 ^^^ y)).map nI)[z]? = _
            rw [List.getElem?_map, List.getElem?_set_self hz]
            rfl
          · rw [ob_i_k ez]
            have := d8 z (by rw [nb_len]; exact hz)
            rw [← this]
            simp [nb, List.getElem?_map, List.getElem?_set_ne (Ne.symm ez)]
        have eL : ln_sp s.1.2.2.2.2 j m y = s.1.2.2.2.2.set j (q.1.set m (q.1.getD m 0 ^^^ y), q.2) := by rw [ln_sp, hq]
        have l2 : ob_Li (ob_setI t (5 + 2 * r) m (nI (q.1.getD m 0 ^^^ y))) (ll (ln_sp s.1.2.2.2.2 j m y)) := by
          obtain ⟨p1, p2, p3, r', r1, r2, r3, r4, r5⟩ := li
          have hrj : r' j = r := by
            have e2 := ob_aR_e hl1.2.2.2.1 (by rw [hl1.2.2.2.2.1]; omega) (by rw [hl1.2.2.2.2.1]; omega) (r3 j (by omega))
            have := Option.some.inj (e2.symm.trans ga)
            omega
          subst hrj
          have elen : (ll (ln_sp s.1.2.2.2.2 j m y)).length = (ll s.1.2.2.2.2).length := by rw [eL, List.length_map, List.length_map, List.length_set]
          refine ⟨p1.fr f rfl, by rw [elen]; exact p2, by rw [elen, ob_i_n (by omega)]; exact p3, r', r1, r2, r3, fun z hz => ?_, fun z w hw => ?_⟩
          · by_cases e : z = r' j
            · subst e
              exact ⟨_, hb2⟩
            · obtain ⟨L2, hL2⟩ := r4 z hz
              exact ⟨L2, hL2.fr f (by omega) (by omega)⟩
          · have hzl : z < (ll s.1.2.2.2.2).length := by
              rw [← elen]
              exact (List.getElem?_eq_some_iff.mp hw).1
            rw [List.length_map] at hzl
            by_cases e : z = j
            · subst e
              have : w = (nb (q.1.set m (q.1.getD m 0 ^^^ y)), nI q.2) := by
                rw [eL] at hw
                simp only [ll, List.getElem?_map, List.getElem?_set_self hzl, Option.map_some] at hw
                exact (Option.some.inj hw).symm
              subst this
              have hq2 : (ll s.1.2.2.2.2)[z]? = some (nb q.1, nI q.2) := by simp [ll, List.getElem?_map, hq]
              exact ⟨hb2, by rw [ob_i_n (by omega)]; exact (r5 z _ hq2).2⟩
            · have hw2 : (ll s.1.2.2.2.2)[z]? = some w := by
                rw [eL] at hw
                simp only [ll, List.getElem?_map, List.getElem?_set_ne (Ne.symm e)] at hw ⊢
                exact hw
              obtain ⟨q1, q2⟩ := r5 z w hw2
              have hne : r' z ≠ r' j := fun y => e (r2 z j (by omega) (by omega) y)
              exact ⟨q1.fr f (by omega) (by omega), by rw [ob_i_n (by omega)]; exact q2⟩
        rw [if_neg c3, if_pos (by decide), if_neg c3, nI_clamp hm, nI_clamp (by omega)]
        refine ⟨ob_setI t (5 + 2 * r) m (nI (q.1.getD m 0 ^^^ y)), ?_, h.ln F l2, F.mono (fun q z => by omega)⟩
        rw [ob_b_e (ob_gR_e h.1.1 h.1.2.1), ob_b_e (ob_gR_e hl1.1 hl1.2.1), ob_b_e ga, ob_b_e (ob_gR_e hb.1 hb.2.1), ob_b_e ge2, ex, ob_b_e (ob_wI_e hb.2.2.1 (by rw [hb.2.2.2.1]; omega) (by rw [hb.2.2.2.1]; omega))]
        rfl
end OBI

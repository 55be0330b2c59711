/-! LAYER 2, 11: the Message is read -/
theorem x_By_addFromMin {t : ob_S} {n a m n2 a2 m2 : Nat} {L K : List Int32} (st ct : Nat) (h : ob_By t n a m L) (h' : ob_By t n2 a2 m2 K) (hs : st ≤ K.length) (hc : ct < 2 ^ 31) : X_By_addFrom n n2 (nI st) (nI ct) t = X_By_addFrom n n2 (nI st) (nI (min ct (m - L.length))) t := by
  obtain ⟨h1, h2, h3, h4, h5, h6, h7, h8⟩ := h
  obtain ⟨k1, k2, k3, k4, k5, k6, k7, k8⟩ := h'
  have es : nI K.length - nI st = nI (K.length - st) := nb_sub hs
  have em : nI m - nI L.length = nI (m - L.length) := nb_sub h6
  have e1 : ob_mn (nI ct) (ob_mn (nI K.length - nI st) (nI m - nI L.length)) = nI (min ct (min (K.length - st) (m - L.length))) := by
    rw [es, em, ob_mn_nI (by omega) (by omega), ob_mn_nI hc (by omega)]
  have e2 : ob_mn (nI (min ct (m - L.length))) (ob_mn (nI K.length - nI st) (nI m - nI L.length)) = nI (min ct (min (K.length - st) (m - L.length))) := by
    rw [es, em, ob_mn_nI (by omega) (by omega), ob_mn_nI (by omega) (by omega)]
    congr 1
    omega
  rw [X_By_addFrom, X_By_addFrom, ob_this_e h1, ob_this_e h1, ob_b_e (ob_gI_e k1 k7), ob_b_e (ob_gI_e k1 k7), ob_b_e (ob_gR_e h1 h2), ob_b_e (ob_gR_e h1 h2), ob_b_e (ob_aL_e h3 h4), ob_b_e (ob_aL_e h3 h4), ob_b_e (ob_gI_e h1 h7), ob_b_e (ob_gI_e h1 h7), e1, e2]
theorem x_isBlock (x : Int32) (t : ob_S) : X_Ms_isBlock x t = some (ps_blkb x, t) := by
  rw [X_Ms_isBlock, ps_blkb]
  by_cases c1 : x = -1
  · rw [if_pos c1, if_pos c1]; rfl
  · rw [if_neg c1, if_neg c1]
    by_cases c2 : (1023 : Int32) < x
    · rw [if_pos c2, if_pos c2]; rfl
    · rw [if_neg c2, if_neg c2, X_Ob_szxOf]
      show (if (1 : Int32) < x &&& 7 then B_Ms_isBlock_24 t else ob_z 1 t) = _
      by_cases c3 : (1 : Int32) < x &&& 7
      · rw [if_pos c3, if_pos c3]; rfl
      · rw [if_neg c3, if_neg c3]; rfl
theorem ps_blk01 (x : Int32) : ps_blkb x = 0 ∨ ps_blkb x = 1 := by
  unfold ps_blkb
  split
  · exact Or.inl rfl
  · split
    · exact Or.inl rfl
    · split
      · exact Or.inl rfl
      · exact Or.inr rfl
theorem x_keepSegment {t : ob_S} {F : Nat → Int32} {S : List (List Nat)} {K : List Nat} {n a m s c : Nat} {L : List Nat} (h : ob_Ms t F S K) (hr : ob_Rw t n a m L) (hs : ob_i t 96 13 = nI s) (hc : ob_i t 96 14 = nI c) (hb : s + c ≤ L.length) (hc12 : c ≤ 12) :
    ∃ u, X_Ms_keepSegment 96 n t = some (if S.length = 2 then 0 else 1, u) ∧ ob_Fr ob_mP t u ∧ (S.length = 2 → u = t) ∧ (S.length ≠ 2 → ob_Ms u F (S ++ [(L.drop s).take c]) K ∧ ob_i u 96 11 = ob_i t 96 11 ∧ ob_i u 96 12 = ob_i t 96 12) := by
  have hl := hr.len
  have hh := h
  obtain ⟨h1, h2, h3, h4, h5, h6, h7, h8, h9, h10⟩ := h
  by_cases c2 : S.length = 2
  · refine ⟨t, ?_, ob_Fr.rf, fun _ => rfl, fun z => absurd c2 z⟩
    rw [X_Ms_keepSegment, ob_this_e h1, ob_b_e (ob_gI_e h1 h6), if_neg (show ¬ ¬ nI S.length = (2 : Int32) from fun z => z (by rw [c2]; rfl)), if_pos c2]; rfl
  · have hV : nb ((L.drop s).take c) = ((nb L).drop s).take c := by simp [nb, List.map_drop, List.map_take]
    have n2 : ¬ nI S.length = (2 : Int32) := fun z => c2 ((nI_eq (b := 2) (by omega) (by omega)).mp z)
    match S, h6, h7, h8, h9, c2, n2 with
    | [], h6, h7, h8, h9, c2, n2 =>
      obtain ⟨u1, e1, b1, f1⟩ := x_By_addFrom s c h8 hr.1 (by have := hr.2.2.1; omega) (by have := hr.2.1; omega) (by rw [nb_len]; omega) (by omega) (by show 0 + min c ((nb L).length - s) ≤ 12; omega)
      have i1 : ob_is u1 96 8 := h1.fr f1
      have ei := (f1.2.2.2 96 (by omega)).1
      have er := (f1.2.2.2 96 (by omega)).2
      have f2 : ob_Fr (fun q => q = 96) u1 (ob_setI u1 96 7 (nI 1)) := ob_Fr.setI rfl
      refine ⟨ob_setI u1 96 7 (nI 1), ?_, (f1.mono (fun q z => by omega)).tr (f2.mono (fun q z => by omega)), fun z => absurd z c2, fun _ => ⟨⟨i1, by show ob_r u1 96 8 = _; rw [er]; exact h2, by show ob_r u1 96 9 = _; rw [er]; exact h3, by show ob_r u1 96 10 = _; rw [er]; exact h4, fun k hk => by rw [ob_i_k (by omega), ei]; exact h5 k hk, ob_i_self, by simp, ?_, (h9.fr f1 (by omega) (by omega)).fr f2 (by omega) (by omega), (h10.fr f1 (by omega) (by omega)).fr f2 (by omega) (by omega)⟩, by rw [ob_i_k (by omega), ei], by rw [ob_i_k (by omega), ei]⟩⟩
      · rw [X_Ms_keepSegment, ob_this_e h1, ob_b_e (ob_gI_e h1 h6), if_pos n2, ob_b_e (ob_gI_e h1 h6), if_neg (show ¬ ¬ nI ([] : List (List Nat)).length = 0 from fun z => z rfl), ob_b_e (ob_gR_e h1 h2), B_Ms_keepSegment_28, ob_b_e (ob_gI_e h1 hs), ob_b_e (ob_gI_e h1 hc), ob_b_e e1, ob_b_e (ob_gI_e (x := nI 0) i1 (by rw [ei]; exact h6)), ob_b_e (ob_pI_e i1), if_neg c2]; rfl
      · have b2 := b1.fr f2 (by omega) (by omega)
        show ob_By _ 97 98 12 (nb ((L.drop s).take c))
        rw [hV]
        exact b2
    | [V0], h6, h7, h8, h9, c2, n2 =>
      obtain ⟨u1, e1, b1, f1⟩ := x_By_addFrom s c h9 hr.1 (by have := hr.2.2.1; omega) (by have := hr.2.1; omega) (by rw [nb_len]; omega) (by omega) (by show 0 + min c ((nb L).length - s) ≤ 12; omega)
      have i1 : ob_is u1 96 8 := h1.fr f1
      have ei := (f1.2.2.2 96 (by omega)).1
      have er := (f1.2.2.2 96 (by omega)).2
      have f2 : ob_Fr (fun q => q = 96) u1 (ob_setI u1 96 7 (nI 2)) := ob_Fr.setI rfl
      refine ⟨ob_setI u1 96 7 (nI 2), ?_, (f1.mono (fun q z => by omega)).tr (f2.mono (fun q z => by omega)), fun z => absurd z c2, fun _ => ⟨⟨i1, by show ob_r u1 96 8 = _; rw [er]; exact h2, by show ob_r u1 96 9 = _; rw [er]; exact h3, by show ob_r u1 96 10 = _; rw [er]; exact h4, fun k hk => by rw [ob_i_k (by omega), ei]; exact h5 k hk, ob_i_self, by simp, (h8.fr f1 (by omega) (by omega)).fr f2 (by omega) (by omega), ?_, (h10.fr f1 (by omega) (by omega)).fr f2 (by omega) (by omega)⟩, by rw [ob_i_k (by omega), ei], by rw [ob_i_k (by omega), ei]⟩⟩
      · rw [X_Ms_keepSegment, ob_this_e h1, ob_b_e (ob_gI_e h1 h6), if_pos n2, ob_b_e (ob_gI_e h1 h6), if_pos (show ¬ nI [V0].length = 0 from (by decide : ¬ nI 1 = 0)), ob_b_e (ob_gR_e h1 h3), B_Ms_keepSegment_28, ob_b_e (ob_gI_e h1 hs), ob_b_e (ob_gI_e h1 hc), ob_b_e e1, ob_b_e (ob_gI_e (x := nI 1) i1 (by rw [ei]; exact h6)), ob_b_e (ob_pI_e i1), if_neg c2]; rfl
      · have b2 := b1.fr f2 (by omega) (by omega)
        show ob_By _ 99 100 12 (nb ((L.drop s).take c))
        rw [hV]
        exact b2
    | [_, _], h6, h7, h8, h9, c2, n2 => exact absurd rfl c2
    | _ :: _ :: _ :: _, h6, h7, h8, h9, c2, n2 => simp at h7
theorem x_keepValue {t : ob_S} {F : Nat → Int32} {S : List (List Nat)} {K : List Nat} {n a m p num : Nat} {L : List Nat} (h : ob_Ms t F S K) (hr : ob_Rw t n a m L) (hd : ob_Hd t L p num) (hh : ps_hd L p num) (bn : num < 1000) :
    ∃ u, X_Ms_keepValue 96 n t = some (if (ps_keep L p (num + ps_d L p) F S).isSome = true then 1 else 0, u) ∧ ob_Fr ob_mP t u ∧ (∃ F' S', ob_Ms u F' S' K) ∧ (∀ r, ps_keep L p (num + ps_d L p) F S = some r → ob_Ms u r.1 r.2 K ∧ ob_i u 96 11 = ob_i t 96 11 ∧ ob_i u 96 12 = ob_i t 96 12) := by
  obtain ⟨d1, d2, d3, d4⟩ := hd
  have hdl := ps_d_lt (L := L) (p := p) hr.lt
  have en := x_numberIn h hr d3 d4 hh.2.2.2.1
  have pre : X_Ms_keepValue 96 n t = (if nI (num + ps_d L p) = (6 : Int32) then ob_b2 (X_Ms_numberIn 96 n t) fun x51 t51 => (ob_pI 8 4 96 x51 t51).bind fun t54 => (ob_gI 8 4 96 t54).bind fun x58 => if x58 = (-1 : Int32) then ob_z (0 : Int32) t54 else ob_z (1 : Int32) t54 else if nI (num + ps_d L p) = (11 : Int32) then ob_b2 (X_Ms_keepSegment 96 n t) fun x73 t73 => ob_z x73 t73 else if nI (num + ps_d L p) = (23 : Int32) then ob_b2 (X_Ms_numberIn 96 n t) fun x80 t80 => (ob_pI 8 5 96 x80 t80).bind fun t83 => (ob_gI 8 5 96 t83).bind fun x87 => ob_b2 (X_Ms_isBlock x87 t83) fun x90 t90 => ob_z x90 t90 else if nI (num + ps_d L p) = (27 : Int32) then ob_b2 (X_Ms_numberIn 96 n t) fun x97 t97 => (ob_pI 8 6 96 x97 t97).bind fun t100 => (ob_gI 8 6 96 t100).bind fun x104 => ob_b2 (X_Ms_isBlock x104 t100) fun x107 t107 => ob_z x107 t107 else ob_z (0 : Int32) t) := by
    rw [X_Ms_keepValue, ob_this_e h.1, ob_b_e (ob_gI_e h.1 d2)]
  have eqn : ∀ k, k < 1000 → (nI (num + ps_d L p) = nI k ↔ num + ps_d L p = k) := fun k hk => nI_eq (by omega) (by omega)
  rw [pre, ps_keep]
  rw [show (L.drop (ps_p L p)).take (L.getD p 0 % 16) = ps_v L p from rfl] at en
  by_cases c6 : num + ps_d L p = 6
  · have e6 : nI (num + ps_d L p) = (6 : Int32) := (eqn 6 (by omega)).mpr c6
    rw [if_pos e6, if_pos c6]
    have ms := h.set 4 (by omega) (ps_num (ps_v L p))
    refine ⟨ob_setI t 96 4 (ps_num (ps_v L p)), ?_, ob_mset, ⟨_, _, ms⟩, fun r hr2 => ?_⟩
    · rw [ob_b2_e en, ob_b_e (ob_pI_e h.1), ob_b_e (ob_gI_e ms.1 ob_i_self)]
      by_cases z : ps_num (ps_v L p) = -1
      · rw [if_pos z, if_pos z]; rfl
      · rw [if_neg z, if_neg z]; rfl
    · by_cases z : ps_num (ps_v L p) = -1
      · rw [if_pos z] at hr2; cases hr2
      · rw [if_neg z] at hr2; cases hr2
        exact ⟨ms, by rw [ob_i_k (by omega)], by rw [ob_i_k (by omega)]⟩
  · have e6 : ¬ nI (num + ps_d L p) = (6 : Int32) := fun z => c6 ((eqn 6 (by omega)).mp z)
    rw [if_neg e6, if_neg c6]
    by_cases c11 : num + ps_d L p = 11
    · have e11 : nI (num + ps_d L p) = (11 : Int32) := (eqn 11 (by omega)).mpr c11
      rw [if_pos e11, if_pos c11]
      obtain ⟨u, e, fu, g1, g2⟩ := x_keepSegment h hr d3 d4 hh.2.2.2.1 hh.2.1
      by_cases z : S.length = 2
      · refine ⟨u, ?_, fu, ⟨F, S, by rw [g1 z]; exact h⟩, fun r hr2 => by rw [if_pos z] at hr2; cases hr2⟩
        rw [ob_b2_e e, if_pos z, if_pos z]; rfl
      · obtain ⟨g3, g4, g5⟩ := g2 z
        refine ⟨u, ?_, fu, ⟨_, _, g3⟩, fun r hr2 => by rw [if_neg z] at hr2; cases hr2; exact ⟨g3, g4, g5⟩⟩
        rw [ob_b2_e e, if_neg z, if_neg z]; rfl
    · have e11 : ¬ nI (num + ps_d L p) = (11 : Int32) := fun z => c11 ((eqn 11 (by omega)).mp z)
      rw [if_neg e11, if_neg c11]
      by_cases c23 : num + ps_d L p = 23
      · have e23 : nI (num + ps_d L p) = (23 : Int32) := (eqn 23 (by omega)).mpr c23
        rw [if_pos e23, if_pos c23]
        have ms := h.set 5 (by omega) (ps_num (ps_v L p))
        refine ⟨ob_setI t 96 5 (ps_num (ps_v L p)), ?_, ob_mset, ⟨_, _, ms⟩, fun r hr2 => ?_⟩
        · rw [ob_b2_e en, ob_b_e (ob_pI_e h.1), ob_b_e (ob_gI_e ms.1 ob_i_self), ob_b2_e (x_isBlock _ _)]
          rcases ps_blk01 (ps_num (ps_v L p)) with z | z
          · rw [z, if_pos (show (0 : Int32) = 0 from rfl)]; rfl
          · rw [z, if_neg (show ¬ (1 : Int32) = 0 by decide)]; rfl
        · by_cases z : ps_blkb (ps_num (ps_v L p)) = 0
          · rw [if_pos z] at hr2; cases hr2
          · rw [if_neg z] at hr2; cases hr2
            exact ⟨ms, by rw [ob_i_k (by omega)], by rw [ob_i_k (by omega)]⟩
      · have e23 : ¬ nI (num + ps_d L p) = (23 : Int32) := fun z => c23 ((eqn 23 (by omega)).mp z)
        rw [if_neg e23, if_neg c23]
        by_cases c27 : num + ps_d L p = 27
        · have e27 : nI (num + ps_d L p) = (27 : Int32) := (eqn 27 (by omega)).mpr c27
          rw [if_pos e27, if_pos c27]
          have ms := h.set 6 (by omega) (ps_num (ps_v L p))
          refine ⟨ob_setI t 96 6 (ps_num (ps_v L p)), ?_, ob_mset, ⟨_, _, ms⟩, fun r hr2 => ?_⟩
          · rw [ob_b2_e en, ob_b_e (ob_pI_e h.1), ob_b_e (ob_gI_e ms.1 ob_i_self), ob_b2_e (x_isBlock _ _)]
            rcases ps_blk01 (ps_num (ps_v L p)) with z | z
            · rw [z, if_pos (show (0 : Int32) = 0 from rfl)]; rfl
            · rw [z, if_neg (show ¬ (1 : Int32) = 0 by decide)]; rfl
          · by_cases z : ps_blkb (ps_num (ps_v L p)) = 0
            · rw [if_pos z] at hr2; cases hr2
            · rw [if_neg z] at hr2; cases hr2
              exact ⟨ms, by rw [ob_i_k (by omega)], by rw [ob_i_k (by omega)]⟩
        · have e27 : ¬ nI (num + ps_d L p) = (27 : Int32) := fun z => c27 ((eqn 27 (by omega)).mp z)
          rw [if_neg e27, if_neg c27]
          exact ⟨t, rfl, ob_Fr.rf, ⟨F, S, h⟩, fun r hr2 => by cases hr2⟩
/-- the loop over the options; number's bound grows with each -/
theorem x_optsLoop {n a m : Nat} {L K : List Nat} : ∀ (d fu c : Nat) (t : ob_S) (p num : Nat) (F : Nat → Int32) (S : List (List Nat)), c + d = 5 → d < fu → ob_Ms t F S K → ob_Rw t n a m L → ob_i t 96 11 = nI p → ob_i t 96 12 = nI num → num ≤ 28 → p ≤ L.length →
    ∃ u, B_Ms_readOptions_4 (fu + 1) 96 n 1 (nI c) t = some (if (ps_opts L (d + 1) (p, num, F, S)).isSome = true then 1 else 0, u) ∧ ob_Fr ob_mP t u ∧ (∃ F' S', ob_Ms u F' S' K) ∧ (∀ q, ps_opts L (d + 1) (p, num, F, S) = some q → ob_Ms u q.2.2.1 q.2.2.2 K ∧ ob_i u 96 11 = nI q.1 ∧ q.1 ≤ L.length ∧ ¬ ps_at L q.1) := by
  have z0 : ∀ (fu : Nat) (x : Int32) (u : ob_S), B_Ms_readOptions_4 (fu + 1) 96 n 0 x u = some (0, u) := fun fu x u => by
    rw [B_Ms_readOptions_4, if_pos rfl, B_Ms_readOptions_49, if_pos rfl]; rfl
  intro d
  induction d with
  | zero =>
    intro fu c t p num F S hc hfu h hr hp hn hb hpl
    have hl := hr.len
    have hat := x_isAt h hr hp (by omega)
    rw [B_Ms_readOptions_4, if_neg (by decide), if_pos (show (5 : Int32) ≤ nI c from by rw [show c = 5 by omega]; decide), B_Ms_readOptions_49, if_neg (by decide), ob_b2_e hat, ps_opts]
    dsimp only
    by_cases ca : ps_at L p
    · refine ⟨t, ?_, ob_Fr.rf, ⟨F, S, h⟩, fun q hq => ?_⟩
      · rw [if_pos ca, if_pos (by decide), if_pos ca]
        by_cases ch : ps_hd L p num
        · rw [if_pos ch]
          cases ps_keep L p (num + ps_d L p) F S <;> rfl
        · rw [if_neg ch]; rfl
      · rw [if_pos ca] at hq
        by_cases ch : ps_hd L p num
        · rw [if_pos ch] at hq
          cases hk : ps_keep L p (num + ps_d L p) F S with
          | none => rw [hk] at hq; cases hq
          | some r => rw [hk] at hq; cases hq
        · rw [if_neg ch] at hq; cases hq
    · refine ⟨t, ?_, ob_Fr.rf, ⟨F, S, h⟩, fun q hq => ?_⟩
      · rw [if_neg ca, if_neg (by decide), if_neg ca]; rfl
      · rw [if_neg ca] at hq
        cases hq
        exact ⟨h, hp, hpl, ca⟩
  | succ d ih =>
    intro fu c t p num F S hc hfu h hr hp hn hb hpl
    obtain ⟨fu, rfl⟩ : ∃ z, fu = z + 1 := ⟨fu - 1, by omega⟩
    have hl := hr.len
    have hat := x_isAt h hr hp (by omega)
    rw [B_Ms_readOptions_4, if_neg (by decide), if_neg (show ¬ (5 : Int32) ≤ nI c from nI_ge (b := 5) (by omega) (by omega)), ob_b2_e hat, ps_opts]
    dsimp only
    by_cases ca : ps_at L p
    · rw [if_pos ca, if_neg (by decide), if_pos ca]
      obtain ⟨u1, e1, m1, f1, hd1⟩ := x_readHead h hr hp hn ca.1 (by omega)
      have r1 := hr.fr f1
      rw [ob_b2_e e1]
      by_cases ch : ps_hd L p num
      · rw [if_pos ch, if_neg (by decide), if_pos ch]
        obtain ⟨u2, e2, f2, mx2, g2⟩ := x_keepValue m1 r1 (hd1 ch) ch (by omega)
        cases hk : ps_keep L p (num + ps_d L p) F S with
        | none =>
          have e2' : X_Ms_keepValue 96 n u1 = some (0, u2) := by rw [e2, hk]; rfl
          refine ⟨u2, ?_, f1.tr f2, mx2, fun q hq => by cases hq⟩
          rw [ob_b2_e e2', if_pos rfl, B_Ms_readOptions_41, B_Ms_readOptions_42, z0]
          rfl
        | some r =>
          obtain ⟨m2, p2, n2⟩ := g2 r hk
          obtain ⟨w1, w2, w3, w4⟩ := hd1 ch
          have hnum : num + ps_d L p ≤ 28 := by
            unfold ps_keep at hk
            by_cases c6 : num + ps_d L p = 6
            · omega
            · rw [if_neg c6] at hk
              by_cases c11 : num + ps_d L p = 11
              · omega
              · rw [if_neg c11] at hk
                by_cases c23 : num + ps_d L p = 23
                · omega
                · rw [if_neg c23] at hk
                  by_cases c27 : num + ps_d L p = 27
                  · omega
                  · rw [if_neg c27] at hk; cases hk
          obtain ⟨u3, e3, f3, mx3, g3⟩ := ih fu (c + 1) u2 (ps_p L p + L.getD p 0 % 16) (num + ps_d L p) r.1 r.2 (by omega) (by omega) m2 (r1.fr f2) (by rw [p2]; exact w1) (by rw [n2]; exact w2) hnum ch.2.2.2.1
          refine ⟨u3, ?_, (f1.tr f2).tr f3, mx3, g3⟩
          have e2' : X_Ms_keepValue 96 n u1 = some (1, u2) := by rw [e2, hk]; rfl
          rw [ob_b2_e e2', if_neg (by decide), B_Ms_readOptions_42, nI_1]
          exact e3
      · rw [if_neg ch, if_pos rfl, if_neg ch]
        refine ⟨u1, ?_, f1, ⟨_, _, m1⟩, fun q hq => by cases hq⟩
        rw [B_Ms_readOptions_41, B_Ms_readOptions_42, z0]
        rfl
    · rw [if_neg ca, if_pos rfl, if_neg ca]
      refine ⟨t, ?_, ob_Fr.rf, ⟨F, S, h⟩, fun q hq => ?_⟩
      · rw [B_Ms_readOptions_49, if_neg (by decide), ob_b2_e hat, if_neg ca, if_neg (by decide)]; rfl
      · cases hq
        exact ⟨h, hp, hpl, ca⟩

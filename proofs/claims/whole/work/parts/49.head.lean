/-! LAYER 2, 10: the Message reads its options -/
theorem ob_ite {P Q : Prop} {dP : Decidable P} {dQ : Decidable Q} (h : P ↔ Q) (a b : Int32) : @ite Int32 P dP a b = @ite Int32 Q dQ a b := by
  by_cases p : P
  · rw [if_pos p, if_pos (h.mp p)]
  · rw [if_neg p, if_neg (fun q => p (h.mpr q))]
theorem ps_d_lt {L : List Nat} {p : Nat} (h : ∀ k, L.getD k 0 < 256) : ps_d L p < 300 := by
  have h1 := h p
  have h2 := h (p + 1)
  unfold ps_d
  split <;> omega
/-- what stands behind a head that holds -/
def ob_Hd (u : ob_S) (L : List Nat) (p n : Nat) : Prop := ob_i u 96 11 = nI (ps_p L p + L.getD p 0 % 16) ∧ ob_i u 96 12 = nI (n + ps_d L p) ∧ ob_i u 96 13 = nI (ps_p L p) ∧ ob_i u 96 14 = nI (L.getD p 0 % 16)
theorem x_head97 {t : ob_S} {F : Nat → Int32} {S : List (List Nat)} {K : List Nat} {n a m q d c num : Nat} {L : List Nat} (h : ob_Ms t F S K) (hr : ob_Rw t n a m L) (hq : ob_i t 96 11 = nI q) (hn : ob_i t 96 12 = nI num) (hc : ob_i t 96 14 = nI c) (b1 : q < 2000) (b2 : d < 300) (b3 : num < 2000) (b4 : c < 16) :
    ∃ u, B_Ms_readHead_97 96 n (nI d) t = some (if q + c ≤ L.length ∧ (0 < d ∨ num + d = 11) then 1 else 0, u) ∧ ob_Ms u F S K ∧ ob_Fr ob_mP t u ∧ ob_i u 96 11 = nI (q + c) ∧ ob_i u 96 12 = nI (num + d) ∧ ob_i u 96 13 = nI q ∧ ob_i u 96 14 = nI c := by
  have hl := hr.len
  have m1 := h.put 13 (by omega) (nI q)
  have m2 := m1.put 11 (by omega) (nI (q + c))
  have m3 := m2.put 12 (by omega) (nI (num + d))
  have k1 : ob_is (ob_setI t 96 13 (nI q)) 96 8 := h.1
  have k2 : ob_is (ob_setI (ob_setI t 96 13 (nI q)) 96 11 (nI (q + c))) 96 8 := h.1
  have k3 : ob_is (ob_setI (ob_setI (ob_setI t 96 13 (nI q)) 96 11 (nI (q + c))) 96 12 (nI (num + d))) 96 8 := h.1
  have F3 : ob_Fr ob_mP t (ob_setI (ob_setI (ob_setI t 96 13 (nI q)) 96 11 (nI (q + c))) 96 12 (nI (num + d))) := (ob_mset.tr ob_mset).tr ob_mset
  have r3 := hr.fr F3
  have v1 : ob_i (ob_setI t 96 13 (nI q)) 96 11 = nI q := by rw [ob_i_k (by omega)]; exact hq
  have v2 : ob_i (ob_setI t 96 13 (nI q)) 96 14 = nI c := by rw [ob_i_k (by omega)]; exact hc
  have v3 : ob_i (ob_setI (ob_setI t 96 13 (nI q)) 96 11 (nI (q + c))) 96 12 = nI num := by rw [ob_i_k (by omega), ob_i_k (by omega)]; exact hn
  have v4 : ob_i (ob_setI (ob_setI (ob_setI t 96 13 (nI q)) 96 11 (nI (q + c))) 96 12 (nI (num + d))) 96 11 = nI (q + c) := by rw [ob_i_k (by omega), ob_i_self]
  refine ⟨_, ?_, m3, F3, v4, ob_i_self, by rw [ob_i_k (by omega), ob_i_k (by omega), ob_i_self], by rw [ob_i_k (by omega), ob_i_k (by omega), ob_i_k (by omega)]; exact hc⟩
  rw [B_Ms_readHead_97, ob_b_e (ob_gI_e h.1 hq), ob_b_e (ob_pI_e h.1), ob_b_e (ob_gI_e k1 v1), ob_b_e (ob_gI_e k1 v2), nI_add, ob_b_e (ob_pI_e k1), ob_b_e (ob_gI_e k2 v3), nI_add, ob_b_e (ob_pI_e k2), ob_b_e (ob_gI_e k3 v4), ob_b_e (ob_gI_e r3.1.1 r3.len.1)]
  by_cases c1 : L.length < q + c
  · rw [if_pos (nI_lt c1 (by omega)), if_neg (fun z => by have := z.1; omega)]; rfl
  · rw [if_neg (nI_nlt (by omega) (by omega))]
    by_cases c2 : 0 < d
    · rw [if_pos (show (0 : Int32) < nI d from nI_lt (a := 0) c2 (by omega)), if_pos ⟨by omega, Or.inl c2⟩]; rfl
    · rw [if_neg (show ¬ (0 : Int32) < nI d from nI_nlt (a := 0) (b := d) (by omega) (by omega)), ob_b_e (ob_gI_e k3 ob_i_self)]
      by_cases c3 : num + d = 11
      · rw [if_neg (show ¬ ¬ nI (num + d) = (11 : Int32) from fun z => z (by rw [c3]; rfl)), if_pos ⟨by omega, Or.inr c3⟩]; rfl
      · rw [if_pos (show ¬ nI (num + d) = (11 : Int32) from fun z => c3 ((nI_eq (b := 11) (by omega) (by omega)).mp z)), if_neg (fun z => z.2.elim c2 c3)]; rfl
theorem x_readHead {t : ob_S} {F : Nat → Int32} {S : List (List Nat)} {K : List Nat} {n a m p num : Nat} {L : List Nat} (h : ob_Ms t F S K) (hr : ob_Rw t n a m L) (hp : ob_i t 96 11 = nI p) (hn : ob_i t 96 12 = nI num) (hat : p < L.length) (bn : num < 1000) :
    ∃ u, X_Ms_readHead 96 n t = some (if ps_hd L p num then 1 else 0, u) ∧ ob_Ms u F S K ∧ ob_Fr ob_mP t u ∧ (ps_hd L p num → ob_Hd u L p num) := by
  have hl := hr.len
  have hb := hr.lt p
  have g1 := hr.get hat
  have ed : nI (L.getD p 0) / 16 = nI (L.getD p 0 / 16) := pk_div (d := 16) (by omega) (by omega) (by omega)
  have er : nI (L.getD p 0) - nI (L.getD p 0) / 16 * 16 = nI (L.getD p 0 % 16) := pk_rem (d := 16) (by omega) (by omega) (by omega)
  have m1 := h.put 14 (by omega) (nI (L.getD p 0 % 16))
  have m2 := m1.put 11 (by omega) (nI (p + 1))
  have F2 : ob_Fr ob_mP t (ob_setI (ob_setI t 96 14 (nI (L.getD p 0 % 16))) 96 11 (nI (p + 1))) := ob_mset.tr ob_mset
  have v1 : ob_i (ob_setI t 96 14 (nI (L.getD p 0 % 16))) 96 11 = nI p := by rw [ob_i_k (by omega)]; exact hp
  generalize ht1 : ob_setI t 96 14 (nI (L.getD p 0 % 16)) = t1 at m1 m2 F2 v1
  have ht1' : ob_pI 8 14 96 (nI (L.getD p 0 % 16)) t = some t1 := by rw [← ht1]; exact ob_pI_e h.1
  have v5' : ob_i t1 96 12 = nI num := by rw [← ht1, ob_i_k (by omega)]; exact hn
  have v6' : ob_i t1 96 14 = nI (L.getD p 0 % 16) := by rw [← ht1]; exact ob_i_self
  have ht2' : ob_pI 8 11 96 (nI (p + 1)) t1 = some (ob_setI t1 96 11 (nI (p + 1))) := ob_pI_e m1.1
  have v2 : ob_i (ob_setI t1 96 11 (nI (p + 1))) 96 11 = nI (p + 1) := ob_i_self
  have v3 : ob_i (ob_setI t1 96 11 (nI (p + 1))) 96 12 = nI num := by rw [ob_i_k (by omega)]; exact v5'
  have v4 : ob_i (ob_setI t1 96 11 (nI (p + 1))) 96 14 = nI (L.getD p 0 % 16) := by rw [ob_i_k (by omega)]; exact v6'
  generalize ob_setI t1 96 11 (nI (p + 1)) = t2 at m2 F2 ht2' v2 v3 v4
  have r2 := hr.fr F2
  have pre : X_Ms_readHead 96 n t = if (13 : Int32) < nI (L.getD p 0 / 16) then B_Ms_readHead_54 t2 else if nI (L.getD p 0 % 16) ≤ (12 : Int32) then if ¬ nI (L.getD p 0 / 16) = (13 : Int32) then B_Ms_readHead_97 96 n (nI (L.getD p 0 / 16)) t2 else (ob_gI 8 11 96 t2).bind fun x64 => ob_b2 (X_By_has n x64 t2) fun x67 t67 => if ¬ x67 = 0 then (ob_gR 0 0 n t67).bind fun n77 => (ob_gI 8 11 96 t67).bind fun x81 => (ob_aI n77 x81 t67).bind fun x84 => (ob_gI 8 11 96 t67).bind fun x89 => (ob_pI 8 11 96 (x89 + (1 : Int32)) t67).bind fun t94 => B_Ms_readHead_97 96 n (nI (L.getD p 0 / 16) + x84) t94 else ob_z (0 : Int32) t67 else B_Ms_readHead_54 t2 := by
    rw [X_Ms_readHead, ob_this_e h.1, ob_b_e (ob_gR_e hr.1.1 hr.1.2.1), ob_b_e (ob_gI_e h.1 hp), ob_b_e g1, ob_b_e (ob_gR_e hr.1.1 hr.1.2.1), ob_b_e (ob_gI_e h.1 hp), ob_b_e g1, er, ed, ob_b_e ht1', ob_b_e (ob_gI_e m1.1 v1), nI_1, ob_b_e ht2', ob_b_e (ob_gI_e m2.1 v4)]
  rw [pre]
  by_cases c1 : 13 < L.getD p 0 / 16
  · refine ⟨t2, ?_, m2, F2, fun z => absurd z.1 (by omega)⟩
    rw [if_pos (show (13 : Int32) < nI (L.getD p 0 / 16) from nI_lt (a := 13) c1 (by omega)), if_neg (fun z => by have := z.1; omega)]; rfl
  · rw [if_neg (show ¬ (13 : Int32) < nI (L.getD p 0 / 16) from nI_nlt (a := 13) (b := L.getD p 0 / 16) (by omega) (by omega))]
    by_cases c2 : L.getD p 0 % 16 ≤ 12
    · rw [if_pos (show nI (L.getD p 0 % 16) ≤ (12 : Int32) from nI_le (b := 12) c2 (by omega))]
      by_cases c3 : L.getD p 0 / 16 = 13
      · rw [if_neg (show ¬ ¬ nI (L.getD p 0 / 16) = (13 : Int32) from fun z => z (by rw [c3]; rfl))]
        have hh := x_By_has (nI (p + 1)) r2.1
        rw [nb_len] at hh
        by_cases c4 : p + 1 < L.length
        · rw [if_neg (show ¬ (nI (p + 1) < 0 ∨ nI L.length ≤ nI (p + 1)) from fun z => z.elim (nI_pos (by omega)) (nI_ge c4 (by omega)))] at hh
          have m3 := m2.put 11 (by omega) (nI (p + 2))
          have F3 : ob_Fr ob_mP t2 (ob_setI t2 96 11 (nI (p + 2))) := ob_mset
          have hb1 := hr.lt (p + 1)
          obtain ⟨u, e, mu, fu, w1, w2, w3, w4⟩ := x_head97 (q := p + 2) (d := 13 + L.getD (p + 1) 0) (c := L.getD p 0 % 16) (num := num) m3 (r2.fr F3) ob_i_self (by rw [ob_i_k (by omega)]; exact v3) (by rw [ob_i_k (by omega)]; exact v4) (by omega) (by omega) (by omega) (by omega)
          have ep : ps_p L p = p + 2 := by rw [ps_p, if_pos c3]
          have edd : ps_d L p = 13 + L.getD (p + 1) 0 := by rw [ps_d, if_pos c3]
          refine ⟨u, ?_, mu, (F2.tr F3).tr fu, fun _ => ⟨by rw [ep]; exact w1, by rw [edd]; exact w2, by rw [ep]; exact w3, w4⟩⟩
          rw [ob_b_e (ob_gI_e m2.1 v2), ob_b2_e hh, if_pos (by decide), ob_b_e (ob_gR_e r2.1.1 r2.1.2.1), ob_b_e (ob_gI_e m2.1 v2), ob_b_e (r2.get c4), ob_b_e (ob_gI_e m2.1 v2), nI_1, ob_b_e (ob_pI_e m2.1), show nI (L.getD p 0 / 16) + nI (L.getD (p + 1) 0) = nI (13 + L.getD (p + 1) 0) by rw [c3, nI_add], show p + 1 + 1 = p + 2 from rfl, e]
          congr 2
          refine ob_ite ⟨fun z => ⟨by omega, c2, fun _ => c4, by rw [ep]; exact z.1, by rw [edd]; exact z.2⟩, fun z => ⟨by have := z.2.2.2.1; rw [ep] at this; exact this, by have := z.2.2.2.2; rw [edd] at this; exact this⟩⟩ _ _
        · rw [if_pos (show nI (p + 1) < 0 ∨ nI L.length ≤ nI (p + 1) from Or.inr (nI_le (by omega) (by omega)))] at hh
          refine ⟨t2, ?_, m2, F2, fun z => absurd (z.2.2.1 c3) c4⟩
          rw [ob_b_e (ob_gI_e m2.1 v2), ob_b2_e hh, if_neg (fun z => z rfl), if_neg (fun z => c4 (z.2.2.1 c3))]; rfl
      · rw [if_pos (show ¬ nI (L.getD p 0 / 16) = (13 : Int32) from fun z => c3 ((nI_eq (b := 13) (by omega) (by omega)).mp z))]
        obtain ⟨u, e, mu, fu, w1, w2, w3, w4⟩ := x_head97 (q := p + 1) (d := L.getD p 0 / 16) (c := L.getD p 0 % 16) (num := num) m2 r2 v2 v3 v4 (by omega) (by omega) (by omega) (by omega)
        have ep : ps_p L p = p + 1 := by rw [ps_p, if_neg c3]
        have edd : ps_d L p = L.getD p 0 / 16 := by rw [ps_d, if_neg c3]
        refine ⟨u, ?_, mu, F2.tr fu, fun _ => ⟨by rw [ep]; exact w1, by rw [edd]; exact w2, by rw [ep]; exact w3, w4⟩⟩
        rw [e]
        congr 2
        refine ob_ite ⟨fun z => ⟨by omega, c2, fun y => absurd y c3, by rw [ep]; exact z.1, by rw [edd]; exact z.2⟩, fun z => ⟨by have := z.2.2.2.1; rw [ep] at this; exact this, by have := z.2.2.2.2; rw [edd] at this; exact this⟩⟩ _ _
    · refine ⟨t2, ?_, m2, F2, fun z => absurd z.2.1 c2⟩
      rw [if_neg (show ¬ nI (L.getD p 0 % 16) ≤ (12 : Int32) from nI_ge (a := 12) (b := L.getD p 0 % 16) (by omega) (by omega)), if_neg (fun z => c2 z.2.1)]; rfl
/-- the number of a value -/
theorem x_numberIn {t : ob_S} {F : Nat → Int32} {S : List (List Nat)} {K : List Nat} {n a m s c : Nat} {L : List Nat} (h : ob_Ms t F S K) (hr : ob_Rw t n a m L) (hs : ob_i t 96 13 = nI s) (hc : ob_i t 96 14 = nI c) (hb : s + c ≤ L.length) : X_Ms_numberIn 96 n t = some (ps_num ((L.drop s).take c), t) := by
  have hl := hr.len
  have hbyte : ∀ k, k < L.length → X_By_byteOrBad n (nI k) t = some (nI (L.getD k 0), t) := by
    intro k hk
    rw [x_By_byteOrBad (nI k) hr.1, nb_len, if_neg (show ¬ (nI k < 0 ∨ nI L.length ≤ nI k) from fun z => z.elim (nI_pos (by omega)) (nI_ge hk (by omega))), nI_clamp (by omega)]
    congr 2
    simp [nb, List.getD_eq_getElem?_getD, List.getElem?_map, List.getElem?_eq_getElem hk]
  rw [X_Ms_numberIn, ob_this_e h.1, ob_b_e (ob_gI_e h.1 hc)]
  by_cases c0 : c = 0
  · subst c0
    rw [if_neg (fun z => z rfl), List.take_zero]; rfl
  · rw [if_pos (nI_ne0 (by omega) (by omega)), ob_b_e (ob_gI_e h.1 hs), ob_b2_e (hbyte s (by omega)), ob_b_e (ob_gI_e h.1 hc)]
    have hx := hr.lt s
    by_cases c3 : 2 < c
    · rw [if_pos (show (2 : Int32) < nI c from nI_lt (a := 2) c3 (by omega))]
      have hlen : ((L.drop s).take c).length = c := by rw [List.length_take, List.length_drop]; omega
      generalize (L.drop s).take c = V at hlen
      match V, hlen with
      | [], e => simp at e; omega
      | [x], e => simp at e; omega
      | [x, y], e => simp at e; omega
      | x :: y :: z :: V, _ => rfl
    · rw [if_neg (show ¬ (2 : Int32) < nI c from nI_nlt (a := 2) (b := c) (by omega) (by omega))]
      have hd : L.drop s = L.getD s 0 :: L.drop (s + 1) := by
        rw [List.drop_eq_getElem_cons (by omega), List.getD_eq_getElem?_getD, List.getElem?_eq_getElem (by omega)]
        rfl
      by_cases cx : L.getD s 0 = 0
      · rw [cx, if_neg (by decide)]
        rcases (show c = 1 ∨ c = 2 by omega) with rfl | rfl
        · rw [hd, cx]
          show _ = some (ps_num [0], t)
          rfl
        · have hd2 : L.drop (s + 1) = L.getD (s + 1) 0 :: L.drop (s + 1 + 1) := by
            rw [List.drop_eq_getElem_cons (by omega), List.getD_eq_getElem?_getD, List.getElem?_eq_getElem (by omega)]
            rfl
          rw [hd, hd2, cx]
          show _ = some (ps_num [0, _], t)
          rfl
      · rw [if_pos (show (0 : Int32) < nI (L.getD s 0) from nI_lt (a := 0) (by omega) (by omega)), ob_b_e (ob_gI_e h.1 hc)]
        rcases (show c = 1 ∨ c = 2 by omega) with rfl | rfl
        · rw [if_neg (show ¬ ¬ nI 1 = (1 : Int32) from fun z => z rfl), hd]
          show _ = some (ps_num [L.getD s 0], t)
          rw [ps_num, if_neg cx]
        · have hd2 : L.drop (s + 1) = L.getD (s + 1) 0 :: L.drop (s + 1 + 1) := by
            rw [List.drop_eq_getElem_cons (by omega), List.getD_eq_getElem?_getD, List.getElem?_eq_getElem (by omega)]
            rfl
          rw [if_pos (by decide), ob_b_e (ob_gI_e h.1 hs), nI_1, ob_b2_e (hbyte (s + 1) (by omega)), show (256 : Int32) = nI 256 from rfl, pk_mul, nI_add, hd, hd2]
          show _ = some (ps_num [L.getD s 0, L.getD (s + 1) 0], t)
          rw [ps_num, if_neg cx]

/-! LAYER 2, 12: a row is read whole -/
def ps_F (ty code id : Nat) (tok : Int32) : Nat → Int32 := fun k => if k = 0 then nI ty else if k = 1 then nI code else if k = 2 then nI id else if k = 3 then tok else -1
/-- what a row says: numbers, segments, payload -/
noncomputable def ps_read (L : List Nat) : Option ((Nat → Int32) × List (List Nat) × List Nat) :=
  if 4 ≤ L.length ∧ L.getD 0 0 / 64 = 1 ∧ L.getD 0 0 % 16 = (if L.getD 1 0 = 0 then 0 else 1) then
    (if L.getD 1 0 = 0 then (if L.length = 4 then some (ps_F (L.getD 0 0 / 16 % 4) (L.getD 1 0) (256 * L.getD 2 0 + L.getD 3 0) (-1), [], []) else none)
    else if 5 ≤ L.length then (ps_opts L 6 (5, 0, ps_F (L.getD 0 0 / 16 % 4) (L.getD 1 0) (256 * L.getD 2 0 + L.getD 3 0) (nI (L.getD 4 0)), [])).bind (fun q => if q.1 = L.length then some (q.2.2.1, q.2.2.2, []) else if q.1 + 1 < L.length ∧ L.length - q.1 - 1 ≤ 32 then some (q.2.2.1, q.2.2.2, L.drop (q.1 + 1)) else none) else none)
  else none
theorem ob_Ms.congr {t : ob_S} {F G : Nat → Int32} {S : List (List Nat)} {K : List Nat} (h : ob_Ms t F S K) (e : ∀ k, k < 7 → F k = G k) : ob_Ms t G S K := by
  obtain ⟨h1, h2, h3, h4, h5, h6⟩ := h
  exact ⟨h1, h2, h3, h4, fun k hk => by rw [← e k hk]; exact h5 k hk, h6⟩
theorem x_readPayload {t : ob_S} {F : Nat → Int32} {S : List (List Nat)} {n a m p : Nat} {L : List Nat} (h : ob_Ms t F S []) (hr : ob_Rw t n a m L) (hp : ob_i t 96 11 = nI p) (hpl : p ≤ L.length) :
    ∃ u, X_Ms_readPayload 96 n t = some (if p = L.length ∨ (p + 1 < L.length ∧ L.length - p - 1 ≤ 32) then 1 else 0, u) ∧ ob_Fr ob_mP t u ∧ (∃ P', ob_Ms u F S P') ∧ (p = L.length → ob_Ms u F S []) ∧ (p + 1 < L.length → L.length - p - 1 ≤ 32 → ob_Ms u F S (L.drop (p + 1))) := by
  have hl := hr.len
  have hh := h
  obtain ⟨h1, h2, h3, h4, h5, h6, h7, h8, h9, h10⟩ := h
  by_cases c1 : p = L.length
  · refine ⟨t, ?_, ob_Fr.rf, ⟨_, hh⟩, fun _ => hh, fun z => by omega⟩
    rw [X_Ms_readPayload, ob_this_e h1, ob_b_e (ob_gI_e h1 hp), ob_b_e (ob_gI_e hr.1.1 hl.1), if_neg (show ¬ ¬ nI p = nI L.length from fun z => z (by rw [c1])), if_pos (Or.inl c1)]; rfl
  · have e1 : nI L.length - nI p - 1 = nI (L.length - p - 1) := by rw [nb_sub hpl, show (1 : Int32) = nI 1 from rfl, nb_sub (by omega)]
    have em := x_By_addFromMin (p + 1) (L.length - p - 1) h10 hr.1 (by rw [nb_len]; omega) (by omega)
    obtain ⟨u1, e2, b1, f1⟩ := x_By_addFrom (p + 1) (min (L.length - p - 1) (32 - (nb ([] : List Nat)).length)) h10 hr.1 (by have := hr.2.2.1; omega) (by have := hr.2.1; omega) (by rw [nb_len]; omega) (by omega) (by show 0 + min (min (L.length - p - 1) (32 - 0)) _ ≤ 32; omega)
    rw [← em] at e2
    have i1 : ob_is u1 96 8 := h1.fr f1
    have ei := (f1.2.2.2 96 (by omega)).1
    have er := (f1.2.2.2 96 (by omega)).2
    have mk : ∀ P', ob_By u1 101 102 32 (nb P') → ob_Ms u1 F S P' := fun P' hb => ⟨i1, by rw [er]; exact h2, by rw [er]; exact h3, by rw [er]; exact h4, fun k hk => by rw [ei]; exact h5 k hk, by rw [ei]; exact h6, h7, h8.fr f1 (by omega) (by omega), h9.fr f1 (by omega) (by omega), hb⟩
    have hb' : ob_By u1 101 102 32 (nb ((L.drop (p + 1)).take (min (L.length - p - 1) 32))) := by
      rw [show nb ((L.drop (p + 1)).take (min (L.length - p - 1) 32)) = ((nb L).drop (p + 1)).take (min (L.length - p - 1) 32) by simp [nb, List.map_drop, List.map_take]]
      exact b1
    refine ⟨u1, ?_, f1.mono (fun q z => by omega), ⟨_, mk _ hb'⟩, fun z => absurd z c1, fun z1 z2 => ?_⟩
    · rw [X_Ms_readPayload, ob_this_e h1, ob_b_e (ob_gI_e h1 hp), ob_b_e (ob_gI_e hr.1.1 hl.1), if_pos (show ¬ nI p = nI L.length from fun z => c1 ((nI_eq (by omega) (by omega)).mp z)), ob_b_e (ob_gI_e hr.1.1 hl.1), ob_b_e (ob_gI_e h1 hp), ob_b_e (ob_gR_e h1 h4), ob_b_e (ob_gI_e h1 hp), nI_1, e1, ob_b_e e2]
      by_cases c2 : L.length - p - 1 = 0
      · rw [c2, if_pos (show nI 0 ≤ 0 by decide), if_neg (by omega)]; rfl
      · rw [if_neg (nI_nle (by omega) (by omega))]
        by_cases c3 : 32 < L.length - p - 1
        · rw [if_pos (show (32 : Int32) < nI (L.length - p - 1) from nI_lt (a := 32) c3 (by omega)), if_neg (by omega)]; rfl
        · rw [if_neg (show ¬ (32 : Int32) < nI (L.length - p - 1) from nI_nlt (a := 32) (b := L.length - p - 1) (by omega) (by omega)), if_pos (by omega)]; rfl
    · have et : (L.drop (p + 1)).take (min (L.length - p - 1) 32) = L.drop (p + 1) := List.take_of_length_le (by rw [List.length_drop]; omega)
      rw [et] at hb'
      exact mk _ hb'
theorem ps_b0 : ∀ b, b < 256 → ∀ c, c < 2 → (((¬ nI b - 64 - nI c < 0 ∧ ¬ 48 < nI b - 64 - nI c) ∧ (nI b - 64 - nI c) - (nI b - 64 - nI c) / 16 * 16 = 0) ↔ (b / 64 = 1 ∧ b % 16 = c)) ∧ (b / 64 = 1 → b % 16 = c → (nI b - 64 - nI c) / 16 = nI (b / 16 % 4)) := by decide +kernel
theorem x_read45 {t : ob_S} {F : Nat → Int32} {n a m c : Nat} {L : List Nat} (h : ob_Ms t F [] []) (hr : ob_Rw t n a m L) (h4 : 4 ≤ L.length) (hF1 : F 1 = nI (L.getD 1 0)) (hF3 : F 3 = -1) (hF4 : F 4 = -1) (hF5 : F 5 = -1) (hF6 : F 6 = -1) (hn : ob_i t 96 12 = 0) (hc : c = if L.getD 1 0 = 0 then 0 else 1) :
    ∃ u, B_Ms_read_45 96 n (nI c) (nI (L.getD 0 0) - 64) t = some (if (ps_read L).isSome = true then 1 else 0, u) ∧ ob_Fr ob_mP t u ∧ (∃ F' S' P', ob_Ms u F' S' P') ∧ ∀ r, ps_read L = some r → ob_Ms u r.1 r.2.1 r.2.2 := by
  have hl := hr.len
  have hc2 : c < 2 := by rw [hc]; split <;> omega
  obtain ⟨p1, p2⟩ := ps_b0 (L.getD 0 0) (hr.lt 0) c hc2
  by_cases good : L.getD 0 0 / 64 = 1 ∧ L.getD 0 0 % 16 = c
  · obtain ⟨⟨q1, q2⟩, q3⟩ := p1.mpr good
    have q4 := p2 good.1 good.2
    have gd : 4 ≤ L.length ∧ L.getD 0 0 / 64 = 1 ∧ L.getD 0 0 % 16 = (if L.getD 1 0 = 0 then 0 else 1) := ⟨h4, good.1, by rw [← hc]; exact good.2⟩
    rw [B_Ms_read_45, if_neg q1, if_neg q2, if_pos q3, q4, ps_read, if_pos gd]
    have m1 := h.set 0 (by omega) (nI (L.getD 0 0 / 16 % 4))
    have f1 : ob_Fr ob_mP t (ob_setI t 96 0 (nI (L.getD 0 0 / 16 % 4))) := ob_mset
    have r1 := hr.fr f1
    have m2 := m1.set 2 (by omega) (nI (256 * L.getD 2 0 + L.getD 3 0))
    have f2 : ob_Fr ob_mP t (ob_setI (ob_setI t 96 0 (nI (L.getD 0 0 / 16 % 4))) 96 2 (nI (256 * L.getD 2 0 + L.getD 3 0))) := f1.tr ob_mset
    have r2 := hr.fr f2
    have eid : (256 : Int32) * nI (L.getD 2 0) + nI (L.getD 3 0) = nI (256 * L.getD 2 0 + L.getD 3 0) := by rw [show (256 : Int32) = nI 256 from rfl, pk_mul, nI_add]
    have g2 : ob_aI a (2 : Int32) (ob_setI t 96 0 (nI (L.getD 0 0 / 16 % 4))) = some (nI (L.getD 2 0)) := r1.get (k := 2) (by omega)
    have g3 : ob_aI a (3 : Int32) (ob_setI t 96 0 (nI (L.getD 0 0 / 16 % 4))) = some (nI (L.getD 3 0)) := r1.get (k := 3) (by omega)
    have v1 : ob_i (ob_setI (ob_setI t 96 0 (nI (L.getD 0 0 / 16 % 4))) 96 2 (nI (256 * L.getD 2 0 + L.getD 3 0))) 96 1 = nI (L.getD 1 0) := by
      rw [ob_i_k (by omega), ob_i_k (by omega), h.2.2.2.2.1 1 (by omega)]
      exact hF1
    have hn2 : ob_i (ob_setI (ob_setI t 96 0 (nI (L.getD 0 0 / 16 % 4))) 96 2 (nI (256 * L.getD 2 0 + L.getD 3 0))) 96 12 = 0 := by
      rw [ob_i_k (by omega), ob_i_k (by omega)]
      exact hn
    rw [ob_b_e (ob_pI_e h.1), ob_b_e (ob_gR_e r1.1.1 r1.1.2.1), ob_b_e g2, ob_b_e (ob_gR_e r1.1.1 r1.1.2.1), ob_b_e g3, eid, ob_b_e (ob_pI_e m1.1), ob_b_e (ob_gI_e m2.1 v1)]
    generalize ob_setI (ob_setI t 96 0 (nI (L.getD 0 0 / 16 % 4))) 96 2 (nI (256 * L.getD 2 0 + L.getD 3 0)) = t2 at m2 f2 r2 hn2 ⊢
    have hb1 := hr.lt 1
    have mF : ∀ k, k < 7 → upd (upd F 0 (nI (L.getD 0 0 / 16 % 4))) 2 (nI (256 * L.getD 2 0 + L.getD 3 0)) k = ps_F (L.getD 0 0 / 16 % 4) (L.getD 1 0) (256 * L.getD 2 0 + L.getD 3 0) (-1) k := by
      intro k hk
      unfold upd ps_F
      rcases (show k = 0 ∨ k = 1 ∨ k = 2 ∨ k = 3 ∨ k = 4 ∨ k = 5 ∨ k = 6 by omega) with rfl | rfl | rfl | rfl | rfl | rfl | rfl <;> simp [hF1, hF3, hF4, hF5, hF6]
    by_cases c0 : L.getD 1 0 = 0
    · rw [c0, if_neg (show ¬ ¬ nI 0 = 0 from fun z => z rfl), ob_b_e (ob_gI_e r2.1.1 r2.len.1), if_pos rfl]
      rw [c0] at mF
      by_cases c4 : L.length = 4
      · refine ⟨t2, ?_, f2, ⟨_, _, _, m2⟩, fun r hr2 => ?_⟩
        · rw [if_neg (show ¬ ¬ nI L.length = (4 : Int32) from fun z => z (by rw [c4]; rfl)), if_pos c4]; rfl
        · rw [if_pos c4] at hr2
          cases hr2
          exact m2.congr mF
      · refine ⟨t2, ?_, f2, ⟨_, _, _, m2⟩, fun r hr2 => by rw [if_neg c4] at hr2; cases hr2⟩
        rw [if_pos (show ¬ nI L.length = (4 : Int32) from fun z => c4 ((nI_eq (b := 4) (by omega) (by omega)).mp z)), if_neg c4]; rfl
    · rw [if_pos (nI_ne0 (by omega) (by omega)), ob_b_e (ob_gI_e r2.1.1 r2.len.1), if_neg c0]
      by_cases c5 : 5 ≤ L.length
      · have m3 := m2.set 3 (by omega) (nI (L.getD 4 0))
        have f3 : ob_Fr ob_mP t2 (ob_setI t2 96 3 (nI (L.getD 4 0))) := ob_mset
        have m4 := m3.put 11 (by omega) (nI 5)
        have f4 : ob_Fr ob_mP t2 (ob_setI (ob_setI t2 96 3 (nI (L.getD 4 0))) 96 11 (nI 5)) := f3.tr ob_mset
        have mF2 : ∀ k, k < 7 → upd (upd (upd F 0 (nI (L.getD 0 0 / 16 % 4))) 2 (nI (256 * L.getD 2 0 + L.getD 3 0))) 3 (nI (L.getD 4 0)) k = ps_F (L.getD 0 0 / 16 % 4) (L.getD 1 0) (256 * L.getD 2 0 + L.getD 3 0) (nI (L.getD 4 0)) k := by
          intro k hk
          unfold upd ps_F
          rcases (show k = 0 ∨ k = 1 ∨ k = 2 ∨ k = 3 ∨ k = 4 ∨ k = 5 ∨ k = 6 by omega) with rfl | rfl | rfl | rfl | rfl | rfl | rfl <;> simp [hF1, hF4, hF5, hF6]
        have m5 := m4.congr mF2
        have g4 : ob_aI a (4 : Int32) t2 = some (nI (L.getD 4 0)) := r2.get (k := 4) (by omega)
        obtain ⟨u5, e5, f5, mx5, g5⟩ := x_optsLoop (n := n) (a := a) (m := m) (L := L) (K := []) 5 (ob_fu - 1) 0 _ 5 0 _ [] (by omega) (by show 5 < 2000 - 1; omega) m5 (r2.fr f4) ob_i_self (by rw [ob_i_k (by omega), ob_i_k (by omega)]; exact hn2) (by omega) c5
        have e5' : X_Ms_readOptions 96 n (ob_setI (ob_setI t2 96 3 (nI (L.getD 4 0))) 96 11 (nI 5)) = some (if (ps_opts L 6 (5, 0, ps_F (L.getD 0 0 / 16 % 4) (L.getD 1 0) (256 * L.getD 2 0 + L.getD 3 0) (nI (L.getD 4 0)), [])).isSome = true then 1 else 0, u5) := by
          rw [X_Ms_readOptions, ob_this_e m5.1]
          exact e5
        rw [if_pos (show (5 : Int32) ≤ nI L.length from nI_le (a := 5) c5 (by omega)), ob_b_e (ob_gR_e r2.1.1 r2.1.2.1), ob_b_e g4, ob_b_e (ob_pI_e m2.1), ob_b_e (show ob_pI 8 11 96 5 (ob_setI t2 96 3 (nI (L.getD 4 0))) = some (ob_setI (ob_setI t2 96 3 (nI (L.getD 4 0))) 96 11 (nI 5)) from ob_pI_e m3.1), ob_b2_e e5', if_pos c5]
        cases ho : ps_opts L 6 (5, 0, ps_F (L.getD 0 0 / 16 % 4) (L.getD 1 0) (256 * L.getD 2 0 + L.getD 3 0) (nI (L.getD 4 0)), []) with
        | none =>
          refine ⟨u5, ?_, (f2.tr f4).tr f5, ?_, fun r hr2 => by cases hr2⟩
          · rw [if_pos (show (if (none : Option ps_Q).isSome = true then (1 : Int32) else 0) = 0 from rfl)]; rfl
          · obtain ⟨F', S', mx⟩ := mx5
            exact ⟨F', S', [], mx⟩
        | some q =>
          obtain ⟨w1, w2, w3, w4⟩ := g5 q ho
          obtain ⟨u6, e6, f6, ⟨P6, mx6⟩, g6, g7⟩ := x_readPayload w1 (((r2.fr f4).fr f5)) w2 w3
          rw [if_neg (show ¬ (if (some q : Option ps_Q).isSome = true then (1 : Int32) else 0) = 0 from (by decide : ¬ (1 : Int32) = 0)), ob_b2_e e6]
          show ∃ u, _ = some (if ((if q.1 = L.length then some (q.2.2.1, q.2.2.2, []) else if q.1 + 1 < L.length ∧ L.length - q.1 - 1 ≤ 32 then some (q.2.2.1, q.2.2.2, L.drop (q.1 + 1)) else none : Option ((Nat → Int32) × List (List Nat) × List Nat)).isSome = true) then 1 else 0, u) ∧ _
          refine ⟨u6, ?_, ((f2.tr f4).tr f5).tr f6, ⟨_, _, _, mx6⟩, fun r hr2 => ?_⟩
          · by_cases a1 : q.1 = L.length
            · rw [if_pos (Or.inl a1), if_neg (by decide), if_pos a1]; rfl
            · by_cases a2 : q.1 + 1 < L.length ∧ L.length - q.1 - 1 ≤ 32
              · rw [if_pos (Or.inr a2), if_neg (by decide), if_neg a1, if_pos a2]; rfl
              · rw [if_neg (show ¬ (q.1 = L.length ∨ (q.1 + 1 < L.length ∧ L.length - q.1 - 1 ≤ 32)) from fun z => z.elim a1 a2), if_pos rfl, if_neg a1, if_neg a2]; rfl
          · have hr2 : (if q.1 = L.length then some (q.2.2.1, q.2.2.2, []) else if q.1 + 1 < L.length ∧ L.length - q.1 - 1 ≤ 32 then some (q.2.2.1, q.2.2.2, L.drop (q.1 + 1)) else none) = some r := hr2
            by_cases a1 : q.1 = L.length
            · rw [if_pos a1] at hr2
              cases hr2
              exact g6 a1
            · rw [if_neg a1] at hr2
              by_cases a2 : q.1 + 1 < L.length ∧ L.length - q.1 - 1 ≤ 32
              · rw [if_pos a2] at hr2
                cases hr2
                exact g7 a2.1 a2.2
              · rw [if_neg a2] at hr2
                cases hr2
      · refine ⟨t2, ?_, f2, ⟨_, _, _, m2⟩, fun r hr2 => by rw [if_neg c5] at hr2; cases hr2⟩
        rw [if_neg (show ¬ (5 : Int32) ≤ nI L.length from nI_ge (b := 5) (by omega) (by omega)), if_neg c5]; rfl
  · have bad : ps_read L = none := by
      rw [ps_read, if_neg (fun z => good ⟨z.2.1, by rw [hc]; exact z.2.2⟩)]
    refine ⟨t, ?_, ob_Fr.rf, ⟨_, _, _, h⟩, fun r hr2 => by rw [bad] at hr2; cases hr2⟩
    rw [B_Ms_read_45, bad]
    by_cases q1 : nI (L.getD 0 0) - 64 - nI c < 0
    · rw [if_pos q1]; rfl
    · rw [if_neg q1]
      by_cases q2 : 48 < nI (L.getD 0 0) - 64 - nI c
      · rw [if_pos q2]; rfl
      · rw [if_neg q2, if_neg (fun q3 => good (p1.mp ⟨⟨q1, q2⟩, q3⟩))]; rfl
theorem x_Ms_read {t : ob_S} {F : Nat → Int32} {S : List (List Nat)} {K : List Nat} {n a m : Nat} {L : List Nat} (h : ob_Ms t F S K) (hr : ob_Rw t n a m L) : ∃ u, X_Ms_read 96 n t = some (if (ps_read L).isSome = true then 1 else 0, u) ∧ ob_Fr ob_mP t u ∧ (∃ F' S' P', ob_Ms u F' S' P') ∧ ∀ r, ps_read L = some r → ob_Ms u r.1 r.2.1 r.2.2 := by
  obtain ⟨u1, e1, m1, n1, f1⟩ := x_Ms_forget h
  have r1 := hr.fr f1
  have hl := r1.len
  by_cases c4 : 4 ≤ L.length
  · have g1 : ob_aI a (1 : Int32) u1 = some (nI (L.getD 1 0)) := r1.get (k := 1) (by omega)
    have m2 := m1.set 1 (by omega) (nI (L.getD 1 0))
    have f2 : ob_Fr ob_mP u1 (ob_setI u1 96 1 (nI (L.getD 1 0))) := ob_mset
    have r2 := r1.fr f2
    have g0 : ob_aI a (0 : Int32) (ob_setI u1 96 1 (nI (L.getD 1 0))) = some (nI (L.getD 0 0)) := r2.get (k := 0) (by omega)
    obtain ⟨u3, e3, f3, mx3, g3⟩ := x_read45 (c := if L.getD 1 0 = 0 then 0 else 1) m2 r2 c4 pk_us rfl rfl rfl rfl (by rw [ob_i_k (by omega)]; exact n1) rfl
    refine ⟨u3, ?_, (f1.tr f2).tr f3, mx3, g3⟩
    have hb1 := r1.lt 1
    rw [X_Ms_read, ob_this_e h.1, ob_b_e e1, ob_b_e (ob_gI_e r1.1.1 hl.1), if_pos (show (4 : Int32) ≤ nI L.length from nI_le (a := 4) c4 (by omega)), ob_b_e (ob_gR_e r1.1.1 r1.1.2.1), ob_b_e g1, ob_b_e (ob_pI_e m1.1), ob_b_e (ob_gR_e r2.1.1 r2.1.2.1), ob_b_e g0, ob_b_e (ob_gI_e m2.1 ob_i_self)]
    by_cases c0 : L.getD 1 0 = 0
    · rw [if_pos c0] at e3
      rw [c0] at e3 ⊢
      rw [if_neg (show ¬ ¬ nI 0 = 0 from fun z => z rfl)]
      exact e3
    · rw [if_neg c0] at e3
      rw [if_pos (nI_ne0 (by omega) (by omega))]
      exact e3
  · have bad : ps_read L = none := by rw [ps_read, if_neg (fun z => c4 z.1)]
    refine ⟨u1, ?_, f1, ⟨_, _, _, m1⟩, fun r hr2 => by rw [bad] at hr2; cases hr2⟩
    rw [X_Ms_read, ob_this_e h.1, ob_b_e e1, ob_b_e (ob_gI_e r1.1.1 hl.1), if_neg (show ¬ (4 : Int32) ≤ nI L.length from nI_ge (b := 4) (by omega) (by omega)), bad]; rfl

/-! LAYER 2, 46: the reference's server: GET is answered, a part is taken -/
theorem dV_W {n j : Nat} (a : dV n j) : ¬ dW n j := by
  intro b
  rcases a with a | a | a | a
  · omega
  · omega
  · rcases a with a | a | a
    · omega
    · rcases a with a | a | a <;> omega
    · rcases a with a | a | a <;> omega
  · rcases a with a | a <;> omega
theorem dX_V {n j : Nat} (a : dX n j) : ¬ dV n j := by
  intro b
  rcases b with b | b | b | b
  · omega
  · omega
  · rcases b with b | b | b
    · omega
    · rcases b with b | b | b <;> omega
    · rcases b with b | b | b <;> omega
  · rcases b with b | b <;> omega
theorem dL_V {n j : Nat} (a : dL n j) : ¬ dV n j := by
  intro b
  rcases b with b | b | b | b
  · omega
  · omega
  · rcases b with b | b | b
    · omega
    · rcases b with b | b | b <;> omega
    · rcases b with b | b | b <;> omega
  · rcases b with b | b <;> omega
section YAG
variable {t : ob_S} {v : sv_S} {ty code id tk r : Nat} {tok w b2 b1 : Option Nat} {S : List (List Nat)} {P : List Nat}
theorem y_get56 {num z : Nat} (hS : mo_sh t) (h : mo_Sx t v) (hm : mo_Mm t ty code id (some tk) w b2 b1 S P) (hr : r < 4) (hn : num < 64) (hz : z < 2) : ∃ u, B_Mo_answerGet_56 103 (nI r) (nI num) (nI z) t = some u ∧ mo_Sx u (sv_reg v tk r num z w).1 ∧ mo_Out u (aw_begin 2 69 id tk ++ (sv_reg v tk r num z w).2.1 ++ aw_cont (v.1 r) (sv_reg v tk r num z w).2.2 num z) 23 ∧ mo_F (fun n j => dV n j ∨ dW n j) t u := by
  obtain ⟨k1, k2⟩ := y_registers (num := num) (z := z) hS h hm hr (by omega) hz
  have g53 := hm.2.2.2.2.1
  have g52 : ob_i t 103 52 = nI tk := hm.2.2.2.1
  have mok := hm.2.2.2.2.2.2.2.2.2.1
  have htk := mok.2.2.2.1 tk rfl
  have hww : ∀ x, w = some x → x < 2 ^ 31 := fun x hx => by have := mok.2.2.2.2.1 x hx; omega
  have plain : ∀ b : Int32, b = 0 → sv_reg v tk r num z w = (v, [], 0) → ∃ u, B_Mo_answerGet_104 103 (nI r) (nI num) (nI z) b t = some u ∧ mo_Sx u (sv_reg v tk r num z w).1 ∧ mo_Out u (aw_begin 2 69 id tk ++ (sv_reg v tk r num z w).2.1 ++ aw_cont (v.1 r) (sv_reg v tk r num z w).2.2 num z) 23 ∧ mo_F (fun n j => dV n j ∨ dW n j) t u := by
    intro b hb e
    rw [e]
    obtain ⟨u, eu, ou, fu⟩ := y_get104 (v := v) (num := num) (z := z) (b := b) hS h.2.2.2.1 hm h.2.1.1 h.2.1.2 hr hn hz
    rw [if_pos hb, if_pos hb] at ou
    exact ⟨u, eu, h.f fu (fun n j a => dV_W a), ou, fu.mono (fun n j z => Or.inr z)⟩
  rw [B_Mo_answerGet_56]
  by_cases c0 : num = 0 ∧ w = some 0
  · cases hb : wt_beg v.2.2.1 tk r z with
    | none =>
      rw [ob_b2_e (k2 (Or.inr hb)), if_neg (show ¬ ¬ nI num = 0 from fun z => z (by rw [c0.1]; rfl)), ob_b_e (mo_g hS), g53, if_pos (show ¬ oI w = (1 : Int32) by rw [c0.2]; decide)]
      exact plain 0 rfl (by rw [sv_reg, if_pos c0, hb])
    | some W =>
      obtain ⟨u1, e1, x1, f1⟩ := k1 W c0 hb
      have es : sv_reg v tk r num z w = ((v.1, v.2.1, W, v.2.2.2.1, v.2.2.2.2.1, (v.2.2.2.2.2.1 + 1) % 65536, v.2.2.2.2.2.2), aw_head 0 6 (aw_n ((v.2.2.2.2.2.1 + 1) % 65536)) ++ aw_val ((v.2.2.2.2.2.1 + 1) % 65536), 6) := by rw [sv_reg, if_pos c0, hb]
      rw [es]
      have s1 := hS.f f1
      have m1 := hm.f f1 (fun n j a => dX_V a)
      obtain ⟨u, eu, ou, fu⟩ := y_get104 (v := v) (num := num) (z := z) (b := 1) s1 x1.2.2.2.1 m1 x1.2.1.1 x1.2.1.2 hr hn hz
      rw [if_neg (by decide), if_neg (by decide)] at ou
      have g53' : ob_i u1 103 53 = oI w := m1.2.2.2.2.1
      refine ⟨u, ?_, x1.f fu (fun n j a => dV_W a), ou, (f1.mono (fun n j z => Or.inl z)).tr (fu.mono (fun n j z => Or.inr z))⟩
      rw [ob_b2_e e1, if_neg (show ¬ ¬ nI num = 0 from fun z => z (by rw [c0.1]; rfl)), ob_b_e (mo_g s1), g53', if_pos (show ¬ oI w = (1 : Int32) by rw [c0.2]; decide)]
      exact eu
  · rw [ob_b2_e (k2 (Or.inl c0))]
    by_cases cn : num = 0
    · rw [if_neg (show ¬ ¬ nI num = 0 from fun z => z (by rw [cn]; rfl)), ob_b_e (mo_g hS), g53]
      by_cases cw : w = some 1
      · rw [if_neg (show ¬ ¬ oI w = (1 : Int32) from fun z => z (by rw [cw]; rfl)), ob_b_e (mo_g hS), g52, ob_b2_e (y_watcherOf hS h.2.2.2.2.2.1 htk)]
        cases hi : wt_ix tk v.2.2.1 0 with
        | none =>
          rw [if_pos (show oI none < 0 by decide)]
          exact plain 0 rfl (by rw [sv_reg, if_neg c0, if_pos ⟨cn, cw⟩, hi])
        | some k =>
          have hk := (wt_ix_lt hi).2
          have h2 := h.2.2.2.2.2.1.2.1
          obtain ⟨u1, e1, w1, f1⟩ := y_drop hS h.2.2.2.2.2.1 (show k < v.2.2.1.length by omega)
          have es : sv_reg v tk r num z w = ((v.1, v.2.1, v.2.2.1.eraseIdx k, v.2.2.2), [], 0) := by rw [sv_reg, if_neg c0, if_pos ⟨cn, cw⟩, hi]
          rw [es]
          have s1 := hS.f f1
          have f1V : mo_F dV t u1 := f1.mono (fun n j z => Or.inr (Or.inr (Or.inl z)))
          have m1 := hm.f f1V (fun n j a => dX_V a)
          have x1 := h.ws (f1.mono (fun n j z => Or.inl z)) ((f1.2.2.2.2 _ _ (by omega)).trans h.2.1.1) h.2.1.2 w1
          obtain ⟨u, eu, ou, fu⟩ := y_get104 (v := v) (num := num) (z := z) (b := 0) s1 x1.2.2.2.1 m1 x1.2.1.1 x1.2.1.2 hr hn hz
          rw [if_pos rfl, if_pos rfl] at ou
          refine ⟨u, ?_, x1.f fu (fun n j a => dV_W a), ou, (f1V.mono (fun n j z => Or.inl z)).tr (fu.mono (fun n j z => Or.inr z))⟩
          have ew := y_watcherOf hS h.2.2.2.2.2.1 htk
          rw [hi] at ew
          rw [if_neg (show ¬ oI (some k) < 0 from nI_nlt (b := 0) (by omega) (by omega)), ob_b_e (mo_g hS), g52, ob_b2_e ew, ob_b_e (show X_Mo_dropWatcher 103 (oI (some k)) t = some u1 from e1)]
          exact eu
      · rw [if_pos (show ¬ oI w = (1 : Int32) from fun q => cw ((oI_eq (y := 1) hww (by omega)).mp q.symm))]
        exact plain 0 rfl (by rw [sv_reg, if_neg c0, if_neg (fun q => cw q.2)])
    · rw [if_pos (nI_ne0 (by omega) (by omega))]
      exact plain 0 rfl (by rw [sv_reg, if_neg c0, if_neg (fun q => cn q.1)])
theorem y_bk {b : Nat} (hb : b ≤ 1023) : nI b / 16 = nI (b / 16) ∧ nI b - nI b / 8 * 8 = nI (b % 8) ∧ (nI b / 8) - (nI b / 8) / 2 * 2 = nI (b / 8 % 2) := by
  refine ⟨?_, ?_, ?_⟩
  · rw [show (16 : Int32) = nI 16 from rfl, pk_div (by omega) (by omega) (by omega)]
  · rw [show (8 : Int32) = nI 8 from rfl, pk_rem (by omega) (by omega) (by omega)]
  · rw [show (8 : Int32) = nI 8 from rfl, show (2 : Int32) = nI 2 from rfl, pk_div (by omega) (by omega) (by omega), pk_rem (by omega) (by omega) (by omega)]
theorem y_answerGet {b : Nat} (hS : mo_sh t) (h : mo_Sx t v) (hm : mo_Mm t ty code id (some tk) w (some b) b1 S P) (hr : r < 4) : (b / 16 ≠ 0 ∧ (v.1 r).length ≤ b / 16 * af_size (b % 8) → ∃ u last, X_Mo_answerGet 103 (nI r) t = some u ∧ mo_Sx u v ∧ mo_Out u (aw_begin 2 130 id tk) last ∧ mo_F (fun n j => dV n j ∨ dW n j) t u) ∧ (¬ (b / 16 ≠ 0 ∧ (v.1 r).length ≤ b / 16 * af_size (b % 8)) → ∃ u last, X_Mo_answerGet 103 (nI r) t = some u ∧ mo_Sx u (sv_reg v tk r (b / 16) (b % 8) w).1 ∧ mo_Out u (aw_begin 2 69 id tk ++ (sv_reg v tk r (b / 16) (b % 8) w).2.1 ++ aw_cont (v.1 r) (sv_reg v tk r (b / 16) (b % 8) w).2.2 (b / 16) (b % 8)) last ∧ mo_F (fun n j => dV n j ∨ dW n j) t u) := by
  have m0 := hm
  obtain ⟨g49, g50, g51, g52, g53, g57, g58, gP, gS, mok, sok⟩ := hm
  have g57 : ob_i t 103 57 = nI b := g57
  have g52 : ob_i t 103 52 = nI tk := g52
  have htk := mok.2.2.2.1 tk rfl
  have hb := mok.2.2.2.2.2.1 b rfl
  obtain ⟨q1, q2, -⟩ := y_bk hb.1
  have hc := h.2.2.2.1 r hr
  have hcl := hc.2.2.1
  have hsz := af_size_ok (b % 8)
  have hfr : b / 16 * af_size (b % 8) ≤ 100 * 32 := Nat.mul_le_mul (by omega) hsz.1
  obtain ⟨u, eu, su, ou, fu⟩ := y_get56 (num := b / 16) (z := b % 8) hS h m0 hr (by omega) hb.2
  rw [X_Mo_answerGet, mo_this hS, ob_b_e (mo_g hS), g57, ob_b_e (mo_g hS), g57, q1, q2]
  by_cases c0 : b / 16 = 0
  · rw [if_pos (show nI (b / 16) = 0 by rw [c0]; rfl)]
    exact ⟨fun z => absurd c0 z.1, fun _ => ⟨u, 23, eu, su, ou, fu⟩⟩
  · rw [if_neg (nI_ne0 (by omega) (by omega)), ob_b2_e (y_size _ hb.2 t), ob_b_e (mo_r29 hS), ob_b_e (mo_a129 hS hr), hc.1, pk_mul]
    by_cases c1 : b / 16 * af_size (b % 8) < (v.1 r).length
    · rw [if_pos (nI_lt c1 (by omega))]
      exact ⟨fun z => by omega, fun _ => ⟨u, 23, eu, su, ou, fu⟩⟩
    · rw [if_neg (nI_nlt (by omega) (by omega))]
      refine ⟨fun _ => ?_, fun z => absurd ⟨c0, by omega⟩ z⟩
      obtain ⟨u1, e1, o1, f1⟩ := y_begin 2 130 id hS (by omega) (by omega) mok.2.2.1
      have s1 := o1.1
      obtain ⟨u2, e2, o2, f2⟩ := y_write (v := nI tk) tk o1 rfl (by simp) htk
      rw [show [64 + 16 * 2 + (if 130 = 0 then 0 else 1), 130, id / 256, id % 256] ++ [tk] = aw_begin 2 130 id tk from rfl] at o2
      have a52 : ob_i u1 103 52 = nI tk := (f1.2.2.2.2 _ _ (by omega)).trans g52
      refine ⟨u2, 0, ?_, h.f (f1.tr f2) (fun n j a => dV_W a), o2, (f1.tr f2).mono (fun n j z => Or.inr z)⟩
      rw [ob_b_e (mo_g hS), g51, ob_b_e (show X_Mo_begin 103 2 130 (nI id) t = some u1 from e1), ob_b_e (mo_g s1), a52, ob_b_e e2]
theorem mo_Ct.set {u : ob_S} {a b r : Nat} {ct : Nat → List Nat} {K : List Nat} (h : mo_Ct t a b ct) (f : mo_F (fun n j => (n = b ∧ j = r) ∨ (n = a ∧ 64 * r ≤ j ∧ j < 64 * r + 64)) t u) (hab : a ≠ b) (e : ob_i u b r = nI K.length) (hK : mo_rw u a (64 * r) K) (hl : K.length ≤ 64) (hb : ∀ x ∈ K, x < 256) : mo_Ct u a b (va_up ct r K) := by
  intro q hq
  by_cases c : q = r
  · subst c
    rw [va_up_self]
    exact ⟨e, hK, hl, hb⟩
  · rw [va_up_ne _ _ c]
    obtain ⟨h1, h2, h3, h4⟩ := h q hq
    exact ⟨(f.2.2.2.2 _ _ (by omega)).trans h1, h2.f f (fun j _ _ => by omega), h3, h4⟩
/-- contents or parts have moved -/
theorem mo_Sx.ct {u : ob_S} {c p : Nat → List Nat} (h : mo_Sx t v) (f : mo_F (fun n _ => 128 ≤ n ∧ n ≤ 131) t u) (hc : mo_Ct u 128 129 c) (hp : mo_Ct u 130 131 p) : mo_Sx u (c, p, v.2.2) := by
  obtain ⟨h38, h37, h6, hC, hQ, hW, hM⟩ := h
  exact ⟨(f.2.2.2.2 _ _ (by omega)).trans h38, ⟨(f.2.2.2.2 _ _ (by omega)).trans h37.1, h37.2⟩, ⟨(f.2.2.2.2 _ _ (by omega)).trans h6.1, h6.2⟩, hc, hp, hW.f f (fun n j a b => by
    rcases a with a | a | a
    · omega
    · rcases a with a | a | a <;> omega
    · rcases a with a | a | a <;> omega), hM.f f (fun n j a b => by rcases a with a | a <;> omega)⟩
theorem y_part85 {K : List Nat} (hS : mo_sh t) (hp : mo_Pl t P) (hr : r < 4) (hl : K.length + P.length ≤ 64) (e131 : ob_i t 131 r = nI K.length) (hK : mo_rw t 130 (64 * r) K) : ∃ g u, B_Mo_takePart_85 ob_fu 103 (nI r) 0 t = B_Mo_takePart_85 (g + 1) 103 (nI r) (nI P.length) u ∧ mo_F (fun n j => (n = 131 ∧ j = r) ∨ (n = 130 ∧ 64 * r ≤ j ∧ j < 64 * r + 64)) t u ∧ ob_i u 131 r = nI (K ++ P).length ∧ mo_rw u 130 (64 * r) (K ++ P) := by
  have key : ∀ d i fu u, i + d = P.length → d < fu → mo_F (fun n j => (n = 131 ∧ j = r) ∨ (n = 130 ∧ 64 * r ≤ j ∧ j < 64 * r + 64)) t u → ob_i u 131 r = nI (K.length + i) → mo_rw u 130 (64 * r) (K ++ P.take i) → ∃ g w, B_Mo_takePart_85 fu 103 (nI r) (nI i) u = B_Mo_takePart_85 (g + 1) 103 (nI r) (nI P.length) w ∧ mo_F (fun n j => (n = 131 ∧ j = r) ∨ (n = 130 ∧ 64 * r ≤ j ∧ j < 64 * r + 64)) t w ∧ ob_i w 131 r = nI (K ++ P).length ∧ mo_rw w 130 (64 * r) (K ++ P) := by
    intro d
    induction d with
    | zero =>
      intro i fu u hi hf f e1 hk
      have e : i = P.length := by omega
      subst e
      rw [List.take_length] at hk
      exact ⟨fu - 1, u, by rw [show fu - 1 + 1 = fu by omega], f, by rw [List.length_append]; exact e1, hk⟩
    | succ d ih =>
      intro i fu u hi hf f e1 hk
      obtain ⟨fu, rfl⟩ : ∃ g, fu = g + 1 := ⟨fu - 1, by omega⟩
      have s1 := hS.f f
      have pl := hp.f f (fun n j a b => by omega)
      have hP32 := pl.2.2.1
      rcases pl.2.1 with e0 | ⟨pa, e59, ea, ep⟩
      · omega
      have e141 := ep i (by omega)
      have hlen : (K ++ P.take i).length = K.length + i := by
        rw [List.length_append, List.length_take]
        omega
      obtain ⟨w, hw⟩ : ∃ w, w = ob_setI (ob_setI u 130 (64 * r + (K.length + i)) (nI (P.getD i 0))) 131 r (nI (K.length + i + 1)) := ⟨_, rfl⟩
      have fw : mo_F (fun n j => (n = 131 ∧ j = r) ∨ (n = 130 ∧ 64 * r ≤ j ∧ j < 64 * r + 64)) t w := by
        rw [hw]
        exact (f.s (by omega)).s (by omega)
      have e2 : K ++ P.take (i + 1) = K ++ P.take i ++ [P.getD i 0] := by
        have hi2 : i < P.length := by omega
        rw [List.append_assoc, List.take_add_one, List.getD_eq_getElem?_getD, List.getElem?_eq_getElem hi2]
        rfl
      have hk' : mo_rw w 130 (64 * r) (K ++ P.take (i + 1)) := by
        intro j hj
        rw [e2, List.length_append, hlen] at hj
        have hj : j < K.length + i + 1 := hj
        rw [hw, ob_i_n (by omega), e2]
        by_cases c : j = K.length + i
        · rw [c, ob_i_self, List.getD_eq_getElem?_getD, List.getD_eq_getElem?_getD, List.getElem?_append_right (by omega), hlen]
          simp
        · rw [ob_i_k (by omega), hk j (by omega)]
          simp only [List.getD_eq_getElem?_getD]
          rw [List.getElem?_append_left (l₁ := K ++ List.take i P) (by rw [hlen]; omega)]
      obtain ⟨g, v, ev, q⟩ := ih (i + 1) fu w (by omega) (by omega) fw (by rw [hw, ob_i_self]; rfl) hk'
      refine ⟨g, v, ?_, q⟩
      rw [← ev]
      have e131b : ob_i (ob_setI u 130 (64 * r + (K.length + i)) (nI (P.getD i 0))) 131 r = nI (K.length + i) := by rw [ob_i_n (by omega)]; exact e1
      rw [B_Mo_takePart_85, ob_b_e (mo_g s1), pl.1, if_neg (nI_ge (by omega) (by omega)), ob_b_e (mo_r30 s1), ob_b_e (mo_r31 s1), ob_b_e (mo_a131 s1 hr), e1, ob_b_e (mo_r47 s1), ob_b_e (mo_g s1), e59, nI_add, ob_b_e (mo_a141 s1 (by omega)), e141, mo_x64, ob_b_e (mo_w130 s1 (by omega)), ob_b_e (mo_r31 (t := ob_setI u 130 (64 * r + (K.length + i)) (nI (P.getD i 0))) s1), ob_b_e (mo_a131 (t := ob_setI u 130 (64 * r + (K.length + i)) (nI (P.getD i 0))) s1 hr), e131b, nI_1, ob_b_e (mo_w131 (t := ob_setI u 130 (64 * r + (K.length + i)) (nI (P.getD i 0))) s1 hr), nI_1, ← hw]
  have h32 := hp.2.2.1
  exact key P.length 0 ob_fu t (by omega) (by show P.length < 2000; omega) mo_F.rf e131 (by simpa using hK)
end YAG

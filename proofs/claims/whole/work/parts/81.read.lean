/-! LAYER 2, 41: the reference reads a row, 2 -/
/-- one option: what the code does behind its head -/
theorem y_opt101 {t : ob_S} {L : List Nat} {p n : Nat} {F : Nat → Int32} {S : List (List Nat)} (k4 : Nat → Int32 → Int32 → ob_S → Option (Int32 × ob_S)) (hS : mo_sh t) (hI : mo_In t L) (hR : mo_Rd t F S) (hn : n < 1000) (hd : ps_d L p < 1000) (hp : ps_p L p < 1000) : (¬ (ps_p L p + L.getD p 0 % 16 ≤ L.length ∧ (0 < ps_d L p ∨ n + ps_d L p = 11)) ∨ ps_keep L p (n + ps_d L p) F S = none → ∃ u, B_Mo_readOptions_101 k4 103 (nI (ps_p L p)) (nI n) (nI (ps_d L p)) (nI (L.getD p 0 % 16)) t = some (-1, u) ∧ mo_F dR t u) ∧ (∀ r, ps_p L p + L.getD p 0 % 16 ≤ L.length ∧ (0 < ps_d L p ∨ n + ps_d L p = 11) → ps_keep L p (n + ps_d L p) F S = some r → ∃ u, B_Mo_readOptions_101 k4 103 (nI (ps_p L p)) (nI n) (nI (ps_d L p)) (nI (L.getD p 0 % 16)) t = k4 103 (nI (ps_p L p + L.getD p 0 % 16)) (nI (n + ps_d L p)) u ∧ mo_Rd u r.1 r.2 ∧ mo_F dR t u) := by
  have e48 := hI.1
  have hLl := hI.2.2.1
  have h16 : L.getD p 0 % 16 < 16 := Nat.mod_lt _ (by omega)
  have e1 : ∀ z : Int32, B_Mo_readOptions_111 k4 103 (nI (ps_p L p)) (nI n) (nI (ps_d L p)) (nI (L.getD p 0 % 16)) z t = if n + ps_d L p = 6 ∨ n + ps_d L p = 11 ∨ n + ps_d L p = 23 ∨ n + ps_d L p = 27 then B_Mo_readOptions_147 k4 103 (nI (ps_p L p)) (nI (n + ps_d L p)) (nI (L.getD p 0 % 16)) z 1 t else B_Mo_readOptions_147 k4 103 (nI (ps_p L p)) (nI (n + ps_d L p)) (nI (L.getD p 0 % 16)) z 0 t := by
    intro z
    have q : ∀ k : Nat, k < 100 → (nI (n + ps_d L p) = nI k ↔ n + ps_d L p = k) := fun k hk => nI_eq (by omega) (by omega)
    rw [B_Mo_readOptions_111, nI_add, B_Mo_readOptions_142, show (6 : Int32) = nI 6 from rfl, show (11 : Int32) = nI 11 from rfl, show (23 : Int32) = nI 23 from rfl, show (27 : Int32) = nI 27 from rfl]
    by_cases c6 : n + ps_d L p = 6
    · rw [if_pos ((q 6 (by omega)).mpr c6), if_pos (by omega)]
    · rw [if_neg (fun k => c6 ((q 6 (by omega)).mp k))]
      by_cases c11 : n + ps_d L p = 11
      · rw [if_pos ((q 11 (by omega)).mpr c11), if_pos (by omega)]
      · rw [if_neg (fun k => c11 ((q 11 (by omega)).mp k))]
        by_cases c23 : n + ps_d L p = 23
        · rw [if_pos ((q 23 (by omega)).mpr c23), if_pos (by omega)]
        · rw [if_neg (fun k => c23 ((q 23 (by omega)).mp k))]
          by_cases c27 : n + ps_d L p = 27
          · rw [if_neg (fun k => k ((q 27 (by omega)).mpr c27)), if_pos (by omega)]
          · rw [if_pos (fun k => c27 ((q 27 (by omega)).mp k)), if_neg (by omega)]
  have f176 : B_Mo_readOptions_176 t = some (-1, t) := rfl
  have unk : ∀ z : Int32, B_Mo_readOptions_147 k4 103 (nI (ps_p L p)) (nI (n + ps_d L p)) (nI (L.getD p 0 % 16)) z 0 t = some (-1, t) := fun z => by
    rw [B_Mo_readOptions_147, if_pos rfl, f176]
  have kno : B_Mo_readOptions_101 k4 103 (nI (ps_p L p)) (nI n) (nI (ps_d L p)) (nI (L.getD p 0 % 16)) t = if (n + ps_d L p = 6 ∨ n + ps_d L p = 11 ∨ n + ps_d L p = 23 ∨ n + ps_d L p = 27) ∧ (0 < ps_d L p ∨ n + ps_d L p = 11) then B_Mo_readOptions_165 k4 103 (nI (ps_p L p)) (nI (n + ps_d L p)) (nI (L.getD p 0 % 16)) t else some (-1, t) := by
    rw [B_Mo_readOptions_101]
    by_cases c0 : ps_d L p = 0
    · rw [if_neg (show ¬ ¬ nI (ps_d L p) = 0 from fun z => z (by rw [c0]; rfl)), e1]
      by_cases c1 : n + ps_d L p = 6 ∨ n + ps_d L p = 11 ∨ n + ps_d L p = 23 ∨ n + ps_d L p = 27
      · rw [if_pos c1, B_Mo_readOptions_147, if_neg (show ¬ (1 : Int32) = 0 by decide), if_neg (show ¬ (1 : Int32) = 0 by decide)]
        by_cases c2 : n + ps_d L p = 11
        · rw [if_neg (show ¬ ¬ nI (n + ps_d L p) = (11 : Int32) from fun z => z (by rw [c2]; rfl)), if_pos ⟨c1, Or.inr c2⟩]
        · rw [if_pos (show ¬ nI (n + ps_d L p) = (11 : Int32) from fun z => c2 ((nI_eq (b := 11) (by omega) (by omega)).mp z)), if_neg (by omega), f176]
      · rw [if_neg c1, unk, if_neg (fun z => c1 z.1)]
    · rw [if_pos (nI_ne0 (by omega) (by omega)), e1]
      by_cases c1 : n + ps_d L p = 6 ∨ n + ps_d L p = 11 ∨ n + ps_d L p = 23 ∨ n + ps_d L p = 27
      · rw [if_pos c1, B_Mo_readOptions_147, if_neg (show ¬ (1 : Int32) = 0 by decide), if_pos (show (0 : Int32) = 0 from rfl), if_pos ⟨c1, Or.inl (by omega)⟩]
      · rw [if_neg c1, unk, if_neg (fun z => c1 z.1)]
  rw [kno]
  by_cases c1 : (n + ps_d L p = 6 ∨ n + ps_d L p = 11 ∨ n + ps_d L p = 23 ∨ n + ps_d L p = 27) ∧ (0 < ps_d L p ∨ n + ps_d L p = 11)
  · rw [if_pos c1]
    by_cases c2 : ps_p L p + L.getD p 0 % 16 ≤ L.length
    · obtain ⟨k1, k2⟩ := y_opt165 k4 hS hI hR c1.1 c2
      refine ⟨fun z => k1 ?_, fun r _ hr => k2 r hr⟩
      rcases z with z | z
      · exact absurd ⟨c2, c1.2⟩ z
      · exact z
    · refine ⟨fun _ => ⟨t, ?_, mo_F.rf⟩, fun r z => absurd z.1 c2⟩
      simp (disch := first | assumption | (simp only [mo_shs]; assumption) | omega | (simp; done) | contradiction) only [B_Mo_readOptions_165, ob_i_self, ob_i_n, ob_i_k, mo_shs, Option.bind_some, ob_b2_s, mo_this, mo_g, mo_p, mo_r0, mo_r1, mo_r2, mo_r7, mo_r8, mo_r9, mo_r10, mo_r11, mo_r12, mo_r13, mo_r14, mo_r15, mo_r16, mo_r17, mo_r18, mo_r19, mo_r20, mo_r21, mo_r22, mo_r23, mo_r24, mo_r25, mo_r26, mo_r27, mo_r28, mo_r29, mo_r30, mo_r31, mo_r33, mo_r34, mo_r35, mo_r36, mo_r40, mo_r41, mo_r42, mo_r43, mo_r44, mo_r47, mo_r55, mo_r56, mo_a104, mo_a105, mo_a106, mo_a107, mo_a108, mo_a109, mo_a110, mo_a111, mo_a112, mo_a113, mo_a114, mo_a115, mo_a116, mo_a117, mo_a118, mo_a119, mo_a120, mo_a121, mo_a122, mo_a123, mo_a124, mo_a125, mo_a126, mo_a127, mo_a128, mo_a129, mo_a130, mo_a131, mo_a132, mo_a133, mo_a134, mo_a135, mo_a136, mo_a137, mo_a138, mo_a139, mo_a140, mo_a141, mo_a142, mo_a143, mo_w104, mo_w105, mo_w106, mo_w107, mo_w108, mo_w109, mo_w110, mo_w111, mo_w112, mo_w113, mo_w114, mo_w115, mo_w116, mo_w117, mo_w118, mo_w119, mo_w120, mo_w121, mo_w122, mo_w123, mo_w124, mo_w125, mo_w126, mo_w127, mo_w128, mo_w129, mo_w130, mo_w131, mo_w132, mo_w133, mo_w134, mo_w135, mo_w136, mo_w137, mo_w138, mo_w139, mo_w140, mo_w141, mo_w142, mo_w143, e48, nI_add]
      rw [if_neg (nI_ge (by omega) (by omega)), f176]
  · rw [if_neg c1]
    refine ⟨fun _ => ⟨t, rfl, mo_F.rf⟩, fun r z hr => absurd ?_ c1⟩
    refine ⟨?_, z.2⟩
    unfold ps_keep at hr
    by_cases c6 : n + ps_d L p = 6
    · exact Or.inl c6
    · rw [if_neg c6] at hr
      by_cases c11 : n + ps_d L p = 11
      · exact Or.inr (Or.inl c11)
      · rw [if_neg c11] at hr
        by_cases c23 : n + ps_d L p = 23
        · exact Or.inr (Or.inr (Or.inl c23))
        · rw [if_neg c23] at hr
          by_cases c27 : n + ps_d L p = 27
          · exact Or.inr (Or.inr (Or.inr c27))
          · rw [if_neg c27] at hr; cases hr
theorem y_opts {L : List Nat} : ∀ (f fu : Nat) (q : ps_Q) (t : ob_S), rk q.2.1 q.2.2.2 < f → rk q.2.1 q.2.2.2 < fu → q.2.2.2.length ≤ 2 → q.1 ≤ L.length → q.2.1 ≤ 27 → mo_sh t → mo_In t L → mo_Rd t q.2.2.1 q.2.2.2 → (ps_opts L f q = none → ∃ u, B_Mo_readOptions_4 fu 103 (nI q.1) (nI q.2.1) t = some (-1, u) ∧ mo_F dR t u) ∧ (∀ q', ps_opts L f q = some q' → ∃ u, B_Mo_readOptions_4 fu 103 (nI q.1) (nI q.2.1) t = some (nI q'.1, u) ∧ mo_Rd u q'.2.2.1 q'.2.2.2 ∧ q'.1 ≤ L.length ∧ mo_F dR t u) := by
  intro f
  induction f with
  | zero => intro fu q t h; exact absurd h (Nat.not_lt_zero _)
  | succ f ih =>
    intro fu q t hf hfu hs2 hq hn27 hS hI hR
    obtain ⟨fu, rfl⟩ : ∃ g, fu = g + 1 := ⟨fu - 1, by omega⟩
    obtain ⟨p, n, F, S⟩ := q
    have hf : rk n S < f + 1 := hf
    have hfu : rk n S < fu + 1 := hfu
    have hs2 : S.length ≤ 2 := hs2
    have hq : p ≤ L.length := hq
    have hn27 : n ≤ 27 := hn27
    have hR : mo_Rd t F S := hR
    have e48 := hI.1
    have hLl := hI.2.2.1
    have hb : ∀ k, L.getD k 0 < 256 := fun k => ps_get_lt hI.2.2.2 k
    show (ps_opts L (f + 1) (p, n, F, S) = none → ∃ u, B_Mo_readOptions_4 (fu + 1) 103 (nI p) (nI n) t = some (-1, u) ∧ mo_F dR t u) ∧ (∀ q', ps_opts L (f + 1) (p, n, F, S) = some q' → ∃ u, B_Mo_readOptions_4 (fu + 1) 103 (nI p) (nI n) t = some (nI q'.1, u) ∧ mo_Rd u q'.2.2.1 q'.2.2.2 ∧ q'.1 ≤ L.length ∧ mo_F dR t u)
    rw [ps_opts]
    show ((if ps_at L p then (if ps_hd L p n then (ps_keep L p (n + ps_d L p) F S).bind (fun r => ps_opts L f (ps_p L p + L.getD p 0 % 16, n + ps_d L p, r)) else none) else some (p, n, F, S)) = none → _) ∧ (∀ q', (if ps_at L p then (if ps_hd L p n then (ps_keep L p (n + ps_d L p) F S).bind (fun r => ps_opts L f (ps_p L p + L.getD p 0 % 16, n + ps_d L p, r)) else none) else some (p, n, F, S)) = some q' → _)
    by_cases ca : ps_at L p
    · rw [if_pos ca]
      have e141 := hI.at p ca.1
      have hbp := hb p
      have hdl : ps_d L p < 300 := ps_d_lt hb
      have ed : nI (L.getD p 0) / 16 = nI (L.getD p 0 / 16) := by
        rw [show (16 : Int32) = nI 16 from rfl, pk_div (by omega) (by omega) (by omega)]
      have em : nI (L.getD p 0) - nI (L.getD p 0 / 16) * 16 = nI (L.getD p 0 % 16) := by
        rw [← ed, show (16 : Int32) = nI 16 from rfl, pk_rem (by omega) (by omega) (by omega)]
      have f78 : B_Mo_readOptions_78 t = some (-1, t) := rfl
      have front : B_Mo_readOptions_4 (fu + 1) 103 (nI p) (nI n) t = if L.getD p 0 / 16 ≤ 13 ∧ L.getD p 0 % 16 ≤ 12 ∧ (L.getD p 0 / 16 = 13 → p + 1 < L.length) then B_Mo_readOptions_101 (B_Mo_readOptions_4 fu) 103 (nI (ps_p L p)) (nI n) (nI (ps_d L p)) (nI (L.getD p 0 % 16)) t else some (-1, t) := by
        simp (disch := first | assumption | (simp only [mo_shs]; assumption) | omega | (simp; done) | contradiction) only [B_Mo_readOptions_4, ob_i_self, ob_i_n, ob_i_k, mo_shs, Option.bind_some, ob_b2_s, mo_this, mo_g, mo_p, mo_r0, mo_r1, mo_r2, mo_r7, mo_r8, mo_r9, mo_r10, mo_r11, mo_r12, mo_r13, mo_r14, mo_r15, mo_r16, mo_r17, mo_r18, mo_r19, mo_r20, mo_r21, mo_r22, mo_r23, mo_r24, mo_r25, mo_r26, mo_r27, mo_r28, mo_r29, mo_r30, mo_r31, mo_r33, mo_r34, mo_r35, mo_r36, mo_r40, mo_r41, mo_r42, mo_r43, mo_r44, mo_r47, mo_r55, mo_r56, mo_a104, mo_a105, mo_a106, mo_a107, mo_a108, mo_a109, mo_a110, mo_a111, mo_a112, mo_a113, mo_a114, mo_a115, mo_a116, mo_a117, mo_a118, mo_a119, mo_a120, mo_a121, mo_a122, mo_a123, mo_a124, mo_a125, mo_a126, mo_a127, mo_a128, mo_a129, mo_a130, mo_a131, mo_a132, mo_a133, mo_a134, mo_a135, mo_a136, mo_a137, mo_a138, mo_a139, mo_a140, mo_a141, mo_a142, mo_a143, mo_w104, mo_w105, mo_w106, mo_w107, mo_w108, mo_w109, mo_w110, mo_w111, mo_w112, mo_w113, mo_w114, mo_w115, mo_w116, mo_w117, mo_w118, mo_w119, mo_w120, mo_w121, mo_w122, mo_w123, mo_w124, mo_w125, mo_w126, mo_w127, mo_w128, mo_w129, mo_w130, mo_w131, mo_w132, mo_w133, mo_w134, mo_w135, mo_w136, mo_w137, mo_w138, mo_w139, mo_w140, mo_w141, mo_w142, mo_w143, e48, e141, ed, em, nI_1, f78]
        rw [if_neg (nI_ge ca.1 (by omega)), if_neg (show ¬ nI (L.getD p 0) = (255 : Int32) from fun z => ca.2 ((nI_eq (b := 255) (by omega) (by omega)).mp z))]
        by_cases c1 : 13 < L.getD p 0 / 16
        · rw [if_pos (show (13 : Int32) < nI (L.getD p 0 / 16) from nI_lt (a := 13) c1 (by omega)), if_neg (by omega)]
        · rw [if_neg (show ¬ (13 : Int32) < nI (L.getD p 0 / 16) from nI_nlt (a := 13) (by omega) (by omega))]
          by_cases c2 : 12 < L.getD p 0 % 16
          · rw [if_pos (show (12 : Int32) < nI (L.getD p 0 % 16) from nI_lt (a := 12) c2 (by omega)), if_neg (by omega)]
          · rw [if_neg (show ¬ (12 : Int32) < nI (L.getD p 0 % 16) from nI_nlt (a := 12) (by omega) (by omega))]
            by_cases c3 : L.getD p 0 / 16 = 13
            · rw [if_neg (show ¬ ¬ nI (L.getD p 0 / 16) = (13 : Int32) from fun z => z (by rw [c3]; rfl))]
              by_cases c4 : p + 1 = L.length
              · rw [if_neg (show ¬ ¬ nI (p + 1) = nI L.length from fun z => z (by rw [c4])), if_neg (by omega)]
              · have e2 := hI.at (p + 1) (by omega)
                have hb1 := hb (p + 1)
                rw [if_pos (show ¬ nI (p + 1) = nI L.length from fun z => c4 ((nI_eq (by omega) (by omega)).mp z)), if_pos ⟨by omega, by omega, fun _ => by omega⟩]
                simp (disch := first | assumption | (simp only [mo_shs]; assumption) | omega | (simp; done) | contradiction) only [B_Mo_readOptions_80, ob_i_self, ob_i_n, ob_i_k, mo_shs, Option.bind_some, ob_b2_s, mo_this, mo_g, mo_p, mo_r0, mo_r1, mo_r2, mo_r7, mo_r8, mo_r9, mo_r10, mo_r11, mo_r12, mo_r13, mo_r14, mo_r15, mo_r16, mo_r17, mo_r18, mo_r19, mo_r20, mo_r21, mo_r22, mo_r23, mo_r24, mo_r25, mo_r26, mo_r27, mo_r28, mo_r29, mo_r30, mo_r31, mo_r33, mo_r34, mo_r35, mo_r36, mo_r40, mo_r41, mo_r42, mo_r43, mo_r44, mo_r47, mo_r55, mo_r56, mo_a104, mo_a105, mo_a106, mo_a107, mo_a108, mo_a109, mo_a110, mo_a111, mo_a112, mo_a113, mo_a114, mo_a115, mo_a116, mo_a117, mo_a118, mo_a119, mo_a120, mo_a121, mo_a122, mo_a123, mo_a124, mo_a125, mo_a126, mo_a127, mo_a128, mo_a129, mo_a130, mo_a131, mo_a132, mo_a133, mo_a134, mo_a135, mo_a136, mo_a137, mo_a138, mo_a139, mo_a140, mo_a141, mo_a142, mo_a143, mo_w104, mo_w105, mo_w106, mo_w107, mo_w108, mo_w109, mo_w110, mo_w111, mo_w112, mo_w113, mo_w114, mo_w115, mo_w116, mo_w117, mo_w118, mo_w119, mo_w120, mo_w121, mo_w122, mo_w123, mo_w124, mo_w125, mo_w126, mo_w127, mo_w128, mo_w129, mo_w130, mo_w131, mo_w132, mo_w133, mo_w134, mo_w135, mo_w136, mo_w137, mo_w138, mo_w139, mo_w140, mo_w141, mo_w142, mo_w143, e2, nI_1]
                rw [if_neg (show ¬ ¬ nI (L.getD p 0 / 16) = (13 : Int32) from fun z => z (by rw [c3]; rfl)), show (13 : Int32) = nI 13 from rfl, nI_add, ps_p, if_pos c3, ps_d, if_pos c3]
            · rw [if_pos (show ¬ nI (L.getD p 0 / 16) = (13 : Int32) from fun z => c3 ((nI_eq (b := 13) (by omega) (by omega)).mp z)), if_pos ⟨by omega, by omega, fun z => absurd z c3⟩, B_Mo_readOptions_80, if_pos (show ¬ nI (L.getD p 0 / 16) = (13 : Int32) from fun z => c3 ((nI_eq (b := 13) (by omega) (by omega)).mp z)), ps_p, if_neg c3, ps_d, if_neg c3]
      rw [front]
      have hpl : ps_p L p ≤ p + 2 := by
        unfold ps_p
        split <;> omega
      by_cases c1 : L.getD p 0 / 16 ≤ 13 ∧ L.getD p 0 % 16 ≤ 12 ∧ (L.getD p 0 / 16 = 13 → p + 1 < L.length)
      · rw [if_pos c1]
        obtain ⟨k1, k2⟩ := y_opt101 (p := p) (n := n) (B_Mo_readOptions_4 fu) hS hI hR (by omega) (by omega) (by omega)
        by_cases ch : ps_hd L p n
        · rw [if_pos ch]
          cases hk : ps_keep L p (n + ps_d L p) F S with
          | none =>
            refine ⟨fun _ => k1 (Or.inr hk), fun q' z => by cases z⟩
          | some r =>
            obtain ⟨u, eu, ru, fR⟩ := k2 r ⟨ch.2.2.2.1, ch.2.2.2.2⟩ hk
            obtain ⟨r1, r2, r3⟩ := rk_keep hk ch.2.2.2.2 hs2
            obtain ⟨i1, i2⟩ := ih fu (ps_p L p + L.getD p 0 % 16, n + ps_d L p, r) u (by show rk (n + ps_d L p) r.2 < f; omega) (by show rk (n + ps_d L p) r.2 < fu; omega) r2 ch.2.2.2.1 (by show n + ps_d L p ≤ 27; omega) (hS.f fR) (hI.f fR (by omega) (fun j => by omega)) ru
            refine ⟨fun z => ?_, fun q' z => ?_⟩
            · obtain ⟨v, ev, fv⟩ := i1 z
              exact ⟨v, eu.trans ev, fR.tr fv⟩
            · obtain ⟨v, ev, rv, lv, fv⟩ := i2 q' z
              exact ⟨v, eu.trans ev, rv, lv, fR.tr fv⟩
        · rw [if_neg ch]
          refine ⟨fun _ => k1 (Or.inl (fun z => ch ⟨c1.1, c1.2.1, c1.2.2, z.1, z.2⟩)), fun q' z => by cases z⟩
      · rw [if_neg c1, if_neg (fun z => c1 ⟨z.1, z.2.1, z.2.2.1⟩)]
        exact ⟨fun _ => ⟨t, rfl, mo_F.rf⟩, fun q' z => by cases z⟩
    · rw [if_neg ca]
      refine ⟨fun z => (by cases z), fun q' z => ?_⟩
      cases z
      refine ⟨t, ?_, hR, hq, mo_F.rf⟩
      by_cases c : p < L.length
      · have e141 := hI.at p c
        have c255 : L.getD p 0 = 255 := Classical.byContradiction (fun z => ca ⟨c, z⟩)
        simp (disch := first | assumption | (simp only [mo_shs]; assumption) | omega | (simp; done) | contradiction) only [B_Mo_readOptions_4, B_Mo_readOptions_249, ob_i_self, ob_i_n, ob_i_k, mo_shs, Option.bind_some, ob_b2_s, mo_this, mo_g, mo_p, mo_r0, mo_r1, mo_r2, mo_r7, mo_r8, mo_r9, mo_r10, mo_r11, mo_r12, mo_r13, mo_r14, mo_r15, mo_r16, mo_r17, mo_r18, mo_r19, mo_r20, mo_r21, mo_r22, mo_r23, mo_r24, mo_r25, mo_r26, mo_r27, mo_r28, mo_r29, mo_r30, mo_r31, mo_r33, mo_r34, mo_r35, mo_r36, mo_r40, mo_r41, mo_r42, mo_r43, mo_r44, mo_r47, mo_r55, mo_r56, mo_a104, mo_a105, mo_a106, mo_a107, mo_a108, mo_a109, mo_a110, mo_a111, mo_a112, mo_a113, mo_a114, mo_a115, mo_a116, mo_a117, mo_a118, mo_a119, mo_a120, mo_a121, mo_a122, mo_a123, mo_a124, mo_a125, mo_a126, mo_a127, mo_a128, mo_a129, mo_a130, mo_a131, mo_a132, mo_a133, mo_a134, mo_a135, mo_a136, mo_a137, mo_a138, mo_a139, mo_a140, mo_a141, mo_a142, mo_a143, mo_w104, mo_w105, mo_w106, mo_w107, mo_w108, mo_w109, mo_w110, mo_w111, mo_w112, mo_w113, mo_w114, mo_w115, mo_w116, mo_w117, mo_w118, mo_w119, mo_w120, mo_w121, mo_w122, mo_w123, mo_w124, mo_w125, mo_w126, mo_w127, mo_w128, mo_w129, mo_w130, mo_w131, mo_w132, mo_w133, mo_w134, mo_w135, mo_w136, mo_w137, mo_w138, mo_w139, mo_w140, mo_w141, mo_w142, mo_w143, e48, e141]
        rw [if_neg (nI_ge c (by omega)), if_pos (show nI (L.getD p 0) = (255 : Int32) by rw [c255]; rfl)]
      · simp (disch := first | assumption | (simp only [mo_shs]; assumption) | omega | (simp; done) | contradiction) only [B_Mo_readOptions_4, B_Mo_readOptions_249, ob_i_self, ob_i_n, ob_i_k, mo_shs, Option.bind_some, ob_b2_s, mo_this, mo_g, mo_p, mo_r0, mo_r1, mo_r2, mo_r7, mo_r8, mo_r9, mo_r10, mo_r11, mo_r12, mo_r13, mo_r14, mo_r15, mo_r16, mo_r17, mo_r18, mo_r19, mo_r20, mo_r21, mo_r22, mo_r23, mo_r24, mo_r25, mo_r26, mo_r27, mo_r28, mo_r29, mo_r30, mo_r31, mo_r33, mo_r34, mo_r35, mo_r36, mo_r40, mo_r41, mo_r42, mo_r43, mo_r44, mo_r47, mo_r55, mo_r56, mo_a104, mo_a105, mo_a106, mo_a107, mo_a108, mo_a109, mo_a110, mo_a111, mo_a112, mo_a113, mo_a114, mo_a115, mo_a116, mo_a117, mo_a118, mo_a119, mo_a120, mo_a121, mo_a122, mo_a123, mo_a124, mo_a125, mo_a126, mo_a127, mo_a128, mo_a129, mo_a130, mo_a131, mo_a132, mo_a133, mo_a134, mo_a135, mo_a136, mo_a137, mo_a138, mo_a139, mo_a140, mo_a141, mo_a142, mo_a143, mo_w104, mo_w105, mo_w106, mo_w107, mo_w108, mo_w109, mo_w110, mo_w111, mo_w112, mo_w113, mo_w114, mo_w115, mo_w116, mo_w117, mo_w118, mo_w119, mo_w120, mo_w121, mo_w122, mo_w123, mo_w124, mo_w125, mo_w126, mo_w127, mo_w128, mo_w129, mo_w130, mo_w131, mo_w132, mo_w133, mo_w134, mo_w135, mo_w136, mo_w137, mo_w138, mo_w139, mo_w140, mo_w141, mo_w142, mo_w143, e48]
        rw [if_pos (nI_le (by omega) (by omega))]
theorem y_read {t : ob_S} {L : List Nat} (hS : mo_sh t) (hI : mo_In t L) : (ps_read L = none → ∃ u, X_Mo_read 103 t = some (0, u) ∧ mo_F dX t u) ∧ (∀ r, ps_read L = some r → ∃ u, X_Mo_read 103 t = some (1, u) ∧ mo_Rd u r.1 r.2.1 ∧ mo_Pl u r.2.2 ∧ mo_F dX t u) := by
  have e48 := hI.1
  have hLl := hI.2.2.1
  have hb : ∀ k, L.getD k 0 < 256 := fun k => ps_get_lt hI.2.2.2 k
  obtain ⟨T, hT⟩ : ∃ T, T = ob_setI (ob_setI (ob_setI (ob_setI (ob_setI (ob_setI t 103 53 (-1)) 103 57 (-1)) 103 58 (-1)) 103 54 0) 103 60 0) 103 52 (-1) := ⟨_, rfl⟩
  have fT : mo_F (fun n j => n = 103 ∧ 52 ≤ j ∧ j ≤ 60) t T := by
    rw [hT]
    exact (((((mo_F.o (by omega)).s (by omega)).s (by omega)).s (by omega)).s (by omega)).s (by omega)
  have sT := hS.f fT
  have iT := hI.f fT (by omega) (fun j => by omega)
  have t48 := iT.1
  have t53 : ob_i T 103 53 = -1 := by rw [hT]; simp [mo_is]
  have t57 : ob_i T 103 57 = -1 := by rw [hT]; simp [mo_is]
  have t58 : ob_i T 103 58 = -1 := by rw [hT]; simp [mo_is]
  have t54 : ob_i T 103 54 = 0 := by rw [hT]; simp [mo_is]
  have t60 : ob_i T 103 60 = 0 := by rw [hT]; simp [mo_is]
  have t52 : ob_i T 103 52 = -1 := by rw [hT]; simp [mo_is]
  have fD : mo_F dX t T := fT.mono (fun n j z => by omega)
  have rd : ∀ (V : ob_S) (k : Nat), mo_sh V → mo_In V L → k < L.length → ob_aI 141 (nI k) V = some (nI (L.getD k 0)) := fun V k s i hk => by
    rw [mo_a141 s (by omega), i.at k hk]
  have is : ∀ (V : ob_S) (j : Nat) (x : Int32), mo_In V L → j ≠ 48 → mo_In (ob_setI V 103 j x) L := fun V j x i hj => i.f (mo_F.o (D := fun n k => n = 103 ∧ k = j) ⟨rfl, rfl⟩) (by omega) (fun k => by omega)
  rw [X_Mo_read, mo_this hS, ob_b_e (mo_p (t := t) hS), ob_b_e (mo_p (t := ob_setI t 103 53 (-1)) hS), ob_b_e (mo_p (t := ob_setI (ob_setI t 103 53 (-1)) 103 57 (-1)) hS), ob_b_e (mo_p (t := ob_setI (ob_setI (ob_setI t 103 53 (-1)) 103 57 (-1)) 103 58 (-1)) hS), ob_b_e (mo_p (t := ob_setI (ob_setI (ob_setI (ob_setI t 103 53 (-1)) 103 57 (-1)) 103 58 (-1)) 103 54 0) hS), ob_b_e (mo_p (t := ob_setI (ob_setI (ob_setI (ob_setI (ob_setI t 103 53 (-1)) 103 57 (-1)) 103 58 (-1)) 103 54 0) 103 60 0) hS), ← hT, ob_b_e (mo_g sT), t48]
  have z0 : ∀ u, ob_z 0 u = some ((0 : Int32), u) := fun u => rfl
  have z1 : ∀ u, ob_z 1 u = some ((1 : Int32), u) := fun u => rfl
  by_cases c4 : L.length < 4
  · rw [ps_read, if_neg (by omega)]
    refine ⟨fun _ => ⟨T, ?_, fD⟩, fun r z => by cases z⟩
    rw [if_pos (show nI L.length < (4 : Int32) from nI_lt (b := 4) c4 (by omega)), B_Mo_read_51, z0]
  · have e0 := iT.at 0 (by omega)
    have e1 := iT.at 1 (by omega)
    have e2 := iT.at 2 (by omega)
    have e3 := iT.at 3 (by omega)
    have b0 := hb 0
    have b1 := hb 1
    have b2 := hb 2
    have b3 := hb 3
    have d64 : nI (L.getD 0 0) / 64 = nI (L.getD 0 0 / 64) := by
      rw [show (64 : Int32) = nI 64 from rfl, pk_div (by omega) (by omega) (by omega)]
    have d16 : (nI (L.getD 0 0) / 16) - (nI (L.getD 0 0) / 16) / 4 * 4 = nI (L.getD 0 0 / 16 % 4) := by
      rw [show (16 : Int32) = nI 16 from rfl, show (4 : Int32) = nI 4 from rfl, pk_div (by omega) (by omega) (by omega), pk_rem (by omega) (by omega) (by omega)]
    have m16 : nI (L.getD 0 0) - nI (L.getD 0 0) / 16 * 16 = nI (L.getD 0 0 % 16) := by
      rw [show (16 : Int32) = nI 16 from rfl, pk_rem (by omega) (by omega) (by omega)]
    have eid : (256 : Int32) * nI (L.getD 2 0) + nI (L.getD 3 0) = nI (256 * L.getD 2 0 + L.getD 3 0) := by
      rw [show (256 : Int32) = nI 256 from rfl, pk_mul, nI_add]
    rw [if_neg (show ¬ nI L.length < (4 : Int32) from nI_nlt (b := 4) (by omega) (by omega)), ob_b_e (mo_r47 sT), ob_b_e (show ob_aI 141 0 T = some (nI (L.getD 0 0)) from rd T 0 sT iT (by omega)), d64]
    by_cases c64 : L.getD 0 0 / 64 = 1
    · rw [if_pos (show nI (L.getD 0 0 / 64) = (1 : Int32) by rw [c64]; rfl)]
      obtain ⟨U, hU⟩ : ∃ U, U = ob_setI (ob_setI (ob_setI T 103 49 (nI (L.getD 0 0 / 16 % 4))) 103 50 (nI (L.getD 1 0))) 103 51 (nI (256 * L.getD 2 0 + L.getD 3 0)) := ⟨_, rfl⟩
      have fU : mo_F (fun n j => n = 103 ∧ 49 ≤ j ∧ j ≤ 51) T U := by
        rw [hU]
        exact ((mo_F.o (by omega)).s (by omega)).s (by omega)
      have sU := sT.f fU
      have iU := iT.f fU (by omega) (fun j => by omega)
      have u48 := iU.1
      have u0 := iU.at 0 (by omega)
      have u49 : ob_i U 103 49 = nI (L.getD 0 0 / 16 % 4) := by rw [hU]; simp [mo_is]
      have u50 : ob_i U 103 50 = nI (L.getD 1 0) := by rw [hU]; simp [mo_is]
      have u51 : ob_i U 103 51 = nI (256 * L.getD 2 0 + L.getD 3 0) := by rw [hU]; simp [mo_is]
      have u52 : ob_i U 103 52 = -1 := (fU.2.2.2.2 _ _ (by omega)).trans t52
      have u53 : ob_i U 103 53 = -1 := (fU.2.2.2.2 _ _ (by omega)).trans t53
      have u57 : ob_i U 103 57 = -1 := (fU.2.2.2.2 _ _ (by omega)).trans t57
      have u58 : ob_i U 103 58 = -1 := (fU.2.2.2.2 _ _ (by omega)).trans t58
      have u54 : ob_i U 103 54 = 0 := (fU.2.2.2.2 _ _ (by omega)).trans t54
      have u60 : ob_i U 103 60 = 0 := (fU.2.2.2.2 _ _ (by omega)).trans t60
      have fDU : mo_F dX t U := fD.tr (fU.mono (fun n j z => by omega))
      have iT1 := is T 49 (nI (L.getD 0 0 / 16 % 4)) iT (by omega)
      have iT2 := is _ 50 (nI (L.getD 1 0)) iT1 (by omega)
      rw [ob_b_e (mo_r47 sT), ob_b_e (show ob_aI 141 0 T = some (nI (L.getD 0 0)) from rd T 0 sT iT (by omega)), d16, ob_b_e (mo_p sT), ob_b_e (mo_r47 (t := (ob_setI T 103 49 (nI (L.getD 0 0 / 16 % 4)))) sT), ob_b_e (show ob_aI 141 1 (ob_setI T 103 49 (nI (L.getD 0 0 / 16 % 4))) = some (nI (L.getD 1 0)) from rd _ 1 sT iT1 (by omega)), ob_b_e (mo_p (t := (ob_setI T 103 49 (nI (L.getD 0 0 / 16 % 4)))) sT), ob_b_e (mo_r47 (t := (ob_setI (ob_setI T 103 49 (nI (L.getD 0 0 / 16 % 4))) 103 50 (nI (L.getD 1 0)))) sT), ob_b_e (show ob_aI 141 2 (ob_setI (ob_setI T 103 49 (nI (L.getD 0 0 / 16 % 4))) 103 50 (nI (L.getD 1 0))) = some (nI (L.getD 2 0)) from rd _ 2 sT iT2 (by omega)), ob_b_e (mo_r47 (t := (ob_setI (ob_setI T 103 49 (nI (L.getD 0 0 / 16 % 4))) 103 50 (nI (L.getD 1 0)))) sT), ob_b_e (show ob_aI 141 3 (ob_setI (ob_setI T 103 49 (nI (L.getD 0 0 / 16 % 4))) 103 50 (nI (L.getD 1 0))) = some (nI (L.getD 3 0)) from rd _ 3 sT iT2 (by omega)), eid, ob_b_e (mo_p (t := (ob_setI (ob_setI T 103 49 (nI (L.getD 0 0 / 16 % 4))) 103 50 (nI (L.getD 1 0)))) sT), ← hU, ob_b_e (mo_g sU), u50]
      by_cases c0 : L.getD 1 0 = 0
      · rw [if_neg (show ¬ ¬ nI (L.getD 1 0) = 0 from fun z => z (by rw [c0]; rfl)), ps_read, ob_b_e (mo_r47 sU), ob_b_e (show ob_aI 141 0 U = some (nI (L.getD 0 0)) from rd U 0 sU iU (by omega)), m16]
        by_cases cm : L.getD 0 0 % 16 = 0
        · rw [if_pos (show 4 ≤ L.length ∧ L.getD 0 0 / 64 = 1 ∧ L.getD 0 0 % 16 = (if L.getD 1 0 = 0 then 0 else 1) from ⟨by omega, c64, by rw [if_pos c0]; exact cm⟩), if_pos c0, if_neg (show ¬ ¬ nI (L.getD 0 0 % 16) = 0 from fun z => z (by rw [cm]; rfl)), ob_b_e (mo_g sU), u48]
          by_cases cl : L.length = 4
          · rw [if_pos cl, if_neg (show ¬ ¬ nI L.length = (4 : Int32) from fun z => z (by rw [cl]; rfl)), z1]
            refine ⟨fun z => (by cases z), fun r z => ?_⟩
            cases z
            refine ⟨U, rfl, ⟨u49, u50, u51, u52, u53, u57, u58, ⟨u54, by simp, fun k V e => by simp at e⟩⟩, ⟨u60, Or.inl rfl, by simp, fun x hx => by cases hx⟩, fDU⟩
          · rw [if_neg cl, if_pos (show ¬ nI L.length = (4 : Int32) from fun z => cl ((nI_eq (b := 4) (by omega) (by omega)).mp z)), B_Mo_read_130, z0]
            exact ⟨fun _ => ⟨U, rfl, fDU⟩, fun r z => by cases z⟩
        · rw [if_neg (show ¬ (4 ≤ L.length ∧ L.getD 0 0 / 64 = 1 ∧ L.getD 0 0 % 16 = (if L.getD 1 0 = 0 then 0 else 1)) from fun z => cm (by have := z.2.2; rw [if_pos c0] at this; exact this)), if_pos (nI_ne0 (by omega) (by omega)), B_Mo_read_130, z0]
          exact ⟨fun _ => ⟨U, rfl, fDU⟩, fun r z => by cases z⟩
      · rw [if_pos (nI_ne0 (by omega) (by omega)), ps_read, ob_b_e (mo_r47 sU), ob_b_e (show ob_aI 141 0 U = some (nI (L.getD 0 0)) from rd U 0 sU iU (by omega)), m16]
        by_cases cm : L.getD 0 0 % 16 = 1
        · rw [if_pos (show 4 ≤ L.length ∧ L.getD 0 0 / 64 = 1 ∧ L.getD 0 0 % 16 = (if L.getD 1 0 = 0 then 0 else 1) from ⟨by omega, c64, by rw [if_neg c0]; exact cm⟩), if_neg c0, if_neg (show ¬ ¬ nI (L.getD 0 0 % 16) = (1 : Int32) from fun z => z (by rw [cm]; rfl)), ob_b_e (mo_g sU), u48]
          by_cases c5 : 5 ≤ L.length
          · have u4 := iU.at 4 (by omega)
            rw [if_pos c5, if_pos (show (5 : Int32) ≤ nI L.length from nI_le (a := 5) c5 (by omega))]
            obtain ⟨W, hW⟩ : ∃ W, W = ob_setI U 103 52 (nI (L.getD 4 0)) := ⟨_, rfl⟩
            have fW : mo_F (fun n j => n = 103 ∧ j = 52) U W := by
              rw [hW]
              exact mo_F.o ⟨rfl, rfl⟩
            have sW := sU.f fW
            have iW := iU.f fW (by omega) (fun j => by omega)
            have w52 : ob_i W 103 52 = nI (L.getD 4 0) := by rw [hW, ob_i_self]
            have w54 : ob_i W 103 54 = 0 := (fW.2.2.2.2 _ _ (by omega)).trans u54
            have w60 : ob_i W 103 60 = 0 := (fW.2.2.2.2 _ _ (by omega)).trans u60
            have rW : mo_Rd W (ps_F (L.getD 0 0 / 16 % 4) (L.getD 1 0) (256 * L.getD 2 0 + L.getD 3 0) (nI (L.getD 4 0))) [] := ⟨(fW.2.2.2.2 _ _ (by omega)).trans u49, (fW.2.2.2.2 _ _ (by omega)).trans u50, (fW.2.2.2.2 _ _ (by omega)).trans u51, w52, (fW.2.2.2.2 _ _ (by omega)).trans u53, (fW.2.2.2.2 _ _ (by omega)).trans u57, (fW.2.2.2.2 _ _ (by omega)).trans u58, ⟨w54, by simp, fun k V e => by simp at e⟩⟩
            have fDW : mo_F dX t W := fDU.tr (fW.mono (fun n j z => by omega))
            obtain ⟨k1, k2⟩ := y_opts 6 ob_fu (5, 0, ps_F (L.getD 0 0 / 16 % 4) (L.getD 1 0) (256 * L.getD 2 0 + L.getD 3 0) (nI (L.getD 4 0)), []) W (show rk 0 [] < 6 by decide) (show rk 0 [] < 2000 by decide) (by simp) c5 (by simp) sW iW rW
            rw [ob_b_e (mo_r47 sU), ob_b_e (show ob_aI 141 4 U = some (nI (L.getD 4 0)) from rd U 4 sU iU (by omega)), ob_b_e (mo_p sU), ← hW, X_Mo_readOptions, mo_this sW]
            cases ho : ps_opts L 6 (5, 0, ps_F (L.getD 0 0 / 16 % 4) (L.getD 1 0) (256 * L.getD 2 0 + L.getD 3 0) (nI (L.getD 4 0)), []) with
            | none =>
              obtain ⟨v, ev, fv⟩ := k1 ho
              rw [ob_b2_e (show B_Mo_readOptions_4 ob_fu 103 5 0 W = some (-1, v) from ev), if_neg (show ¬ (0 : Int32) ≤ -1 by decide), z0]
              exact ⟨fun _ => ⟨v, rfl, fDW.tr (fv.mono (fun n j z => by omega))⟩, fun r z => by cases z⟩
            | some q =>
              obtain ⟨v, ev, rv, lv, fv⟩ := k2 q ho
              have sv := sW.f fv
              have iv := iW.f fv (by omega) (fun j => by omega)
              have v48 := iv.1
              have v60 : ob_i v 103 60 = 0 := (fv.2.2.2.2 _ _ (by omega)).trans w60
              have fDv : mo_F dX t v := fDW.tr (fv.mono (fun n j z => by omega))
              rw [ob_b2_e (show B_Mo_readOptions_4 ob_fu 103 5 0 W = some (nI q.1, v) from ev), if_pos (show (0 : Int32) ≤ nI q.1 from nI_le (a := 0) (by omega) (by omega))]
              show ((if q.1 = L.length then some (q.2.2.1, q.2.2.2, []) else if q.1 + 1 < L.length ∧ L.length - q.1 - 1 ≤ 32 then some (q.2.2.1, q.2.2.2, L.drop (q.1 + 1)) else none) = none → _) ∧ (∀ r, (if q.1 = L.length then some (q.2.2.1, q.2.2.2, []) else if q.1 + 1 < L.length ∧ L.length - q.1 - 1 ≤ 32 then some (q.2.2.1, q.2.2.2, L.drop (q.1 + 1)) else none) = some r → _)
              rw [ob_b_e (mo_g sv), v48]
              by_cases a1 : q.1 = L.length
              · rw [if_pos a1, if_pos (nI_le (by omega) (by omega)), z1]
                refine ⟨fun z => (by cases z), fun r z => ?_⟩
                cases z
                exact ⟨v, rfl, rv, ⟨v60, Or.inl rfl, by simp, fun x hx => by cases hx⟩, fDv⟩
              · rw [if_neg a1, if_neg (nI_ge (by omega) (by omega))]
                obtain ⟨X, hX⟩ : ∃ X, X = ob_setI (ob_setI v 103 59 (nI (q.1 + 1))) 103 60 (nI (L.length - q.1 - 1)) := ⟨_, rfl⟩
                have fX : mo_F (fun n j => n = 103 ∧ (j = 59 ∨ j = 60)) v X := by
                  rw [hX]
                  exact (mo_F.o (by omega)).s (by omega)
                have sX := sv.f fX
                have x60 : ob_i X 103 60 = nI (L.length - q.1 - 1) := by rw [hX, ob_i_self]
                have x59 : ob_i X 103 59 = nI (q.1 + 1) := by rw [hX, ob_i_k (by omega), ob_i_self]
                have fDX : mo_F dX t X := fDv.tr (fX.mono (fun n j z => by omega))
                have es : nI L.length - nI q.1 - 1 = nI (L.length - q.1 - 1) := by
                  rw [nb_sub (by omega), show (1 : Int32) = nI 1 from rfl, nb_sub (by omega)]
                have e48x : ob_i (ob_setI v 103 59 (nI (q.1 + 1))) 103 48 = nI L.length := by rw [ob_i_k (by omega)]; exact v48
                rw [nI_1, ob_b_e (mo_p sv), ob_b_e (mo_g (t := ob_setI v 103 59 (nI (q.1 + 1))) sv), e48x, es, ob_b_e (mo_p (t := ob_setI v 103 59 (nI (q.1 + 1))) sv), ← hX, ob_b_e (mo_g sX), x60]
                by_cases a2 : q.1 + 1 < L.length
                · rw [if_neg (nI_nle (by omega) (by omega)), ob_b_e (mo_g sX), x60]
                  by_cases a3 : L.length - q.1 - 1 ≤ 32
                  · rw [if_neg (show ¬ (33 : Int32) ≤ nI (L.length - q.1 - 1) from nI_ge (b := 33) (by omega) (by omega)), if_pos ⟨a2, a3⟩, z1]
                    refine ⟨fun z => (by cases z), fun r z => ?_⟩
                    cases z
                    have hl : (L.drop (q.1 + 1)).length = L.length - q.1 - 1 := by rw [List.length_drop]; omega
                    refine ⟨X, rfl, ?_, ⟨by rw [hl]; exact x60, Or.inr ⟨q.1 + 1, x59, by rw [hl]; omega, fun i hi => ?_⟩, by rw [hl]; omega, fun x hx => hI.2.2.2 x (List.mem_of_mem_drop hx)⟩, fDX⟩
                    · obtain ⟨r1, r2, r3, r4, r5, r6, r7, r8⟩ := rv
                      exact ⟨(fX.2.2.2.2 _ _ (by omega)).trans r1, (fX.2.2.2.2 _ _ (by omega)).trans r2, (fX.2.2.2.2 _ _ (by omega)).trans r3, (fX.2.2.2.2 _ _ (by omega)).trans r4, (fX.2.2.2.2 _ _ (by omega)).trans r5, (fX.2.2.2.2 _ _ (by omega)).trans r6, (fX.2.2.2.2 _ _ (by omega)).trans r7, r8.f2 fX (by omega) (fun n j z => by omega)⟩
                    · rw [hl] at hi
                      rw [fX.2.2.2.2 _ _ (by omega), iv.at (q.1 + 1 + i) (by omega), List.getD_eq_getElem?_getD, List.getD_eq_getElem?_getD, List.getElem?_drop]
                  · rw [if_pos (show (33 : Int32) ≤ nI (L.length - q.1 - 1) from nI_le (a := 33) (by omega) (by omega)), if_neg (fun z => a3 z.2), B_Mo_read_224, z0]
                    exact ⟨fun _ => ⟨X, rfl, fDX⟩, fun r z => by cases z⟩
                · rw [if_pos (show nI (L.length - q.1 - 1) ≤ 0 from nI_le (b := 0) (by omega) (by omega)), if_neg (fun z => a2 z.1), B_Mo_read_224, z0]
                  exact ⟨fun _ => ⟨X, rfl, fDX⟩, fun r z => by cases z⟩
          · rw [if_neg c5, if_neg (show ¬ (5 : Int32) ≤ nI L.length from nI_ge (b := 5) (by omega) (by omega)), B_Mo_read_153, z0]
            exact ⟨fun _ => ⟨U, rfl, fDU⟩, fun r z => by cases z⟩
        · rw [if_neg (show ¬ (4 ≤ L.length ∧ L.getD 0 0 / 64 = 1 ∧ L.getD 0 0 % 16 = (if L.getD 1 0 = 0 then 0 else 1)) from fun z => cm (by have := z.2.2; rw [if_neg c0] at this; exact this)), if_pos (show ¬ nI (L.getD 0 0 % 16) = (1 : Int32) from fun z => cm ((nI_eq (b := 1) (by omega) (by omega)).mp z)), B_Mo_read_153, z0]
          exact ⟨fun _ => ⟨U, rfl, fDU⟩, fun r z => by cases z⟩
    · rw [if_neg (show ¬ nI (L.getD 0 0 / 64) = (1 : Int32) from fun z => c64 ((nI_eq (b := 1) (by omega) (by omega)).mp z)), B_Mo_read_51, z0, ps_read, if_neg (fun z => c64 z.2.1)]
      exact ⟨fun _ => ⟨T, rfl, fD⟩, fun r z => by cases z⟩

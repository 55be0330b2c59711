/-! LAYER 2, 51: the reference whole; the calls that only look -/
def mo_Cs (t : ob_S) (s : st_S) : Prop := mo_sh t ∧ mo_Ci t s.1 ∧ mo_Sx t s.2.1 ∧ ob_i t 103 4 = s.2.2 ∧ s.2.1.2.2.2.2.2.2.2 = s.1.2.2.2.2
theorem dV_Cl {n j : Nat} (a : dV n j) : ¬ dCl n j := by
  intro b
  rcases a with a | a | a | a
  · omega
  · omega
  · rcases a with a | a | a
    · omega
    · rcases a with a | a | a <;> omega
    · rcases a with a | a | a <;> omega
  · rcases a with a | a <;> omega
theorem dS_Sv {s n j : Nat} (hs : s < 2) (a : dS s n j) : ¬ dSv n j := by
  intro b
  rcases b with b | b | b
  · rcases b with b | b | b | b
    · omega
    · omega
    · rcases b with b | b | b
      · omega
      · rcases b with b | b | b <;> omega
      · rcases b with b | b | b <;> omega
    · rcases b with b | b <;> omega
  · omega
  · omega
theorem dP_Sv {s n j : Nat} (hs : s < 2) (a : dP s n j) : ¬ dSv n j := by
  intro b
  rcases b with b | b | b
  · rcases b with b | b | b | b
    · omega
    · omega
    · rcases b with b | b | b
      · omega
      · rcases b with b | b | b <;> omega
      · rcases b with b | b | b <;> omega
    · rcases b with b | b <;> omega
  · omega
  · omega
abbrev dAll : Nat → Nat → Prop := fun n _ => 103 ≤ n
theorem dCl_all {n j : Nat} (a : dCl n j) : dAll n j := by
  show 103 ≤ n
  rcases a with a | a | a | a | a | a <;> omega
theorem dSv_all {n j : Nat} (a : dSv n j) : dAll n j := by
  show 103 ≤ n
  rcases a with a | a | a
  · rcases a with a | a | a | a
    · omega
    · omega
    · rcases a with a | a | a
      · omega
      · rcases a with a | a | a <;> omega
      · rcases a with a | a | a <;> omega
    · rcases a with a | a <;> omega
  · omega
  · omega
/-- what reading and the line may change -/
abbrev dN : Nat → Nat → Prop := fun n j => dL n j ∨ dW n j ∨ dX n j
theorem dN_all {n j : Nat} (a : dN n j) : dAll n j := by
  show 103 ≤ n
  rcases a with a | a | a <;> omega
section YCS
variable {t u : ob_S} {s : st_S}
theorem mo_Cs.cl {c : cl_S} (h : mo_Cs t s) (f : mo_F dCl t u) (hc : mo_Ci u c) : mo_Cs u (st_c s c) := by
  obtain ⟨h1, h2, h3, h4, h5⟩ := h
  exact ⟨h1.f f, hc, h3.f f (fun n j a => dV_Cl a), (f.2.2.2.2 _ _ (by omega)).trans h4, rfl⟩
theorem mo_Cs.sv {v : sv_S} (h : mo_Cs t s) (f : mo_F dSv t u) (hv : mo_Sv u v) : mo_Cs u (st_v s v) := by
  obtain ⟨h1, h2, h3, h4, h5⟩ := h
  exact ⟨h1.f f, ⟨fun k hk => ⟨(h2.1 k hk).1.f f (fun n j a => dS_Sv hk a), (h2.1 k hk).2.f f (fun n j a => dP_Sv hk a)⟩, ⟨(f.2.2.2.2 _ _ (by omega)).trans h2.2.1.1, h2.2.1.2⟩, hv.2⟩, hv.1, (f.2.2.2.2 _ _ (by omega)).trans h4, rfl⟩
theorem mo_Cs.ln {LL : List (List Nat × Nat)} (h : mo_Cs t s) (f : mo_F dN t u) (hl : mo_Li u LL) : mo_Cs u (st_l s LL) := by
  obtain ⟨h1, h2, h3, h4, h5⟩ := h
  refine ⟨h1.f f, ⟨fun k hk => ⟨(h2.1 k hk).1.f f (fun n j a b => by
    rcases b with b | b | b <;> omega), (h2.1 k hk).2.f f (fun n j a b => by
    rcases b with b | b | b <;> omega)⟩, ⟨(f.2.2.2.2 _ _ (by omega)).trans h2.2.1.1, h2.2.1.2⟩, hl⟩, h3.f f (fun n j a b => ?_), (f.2.2.2.2 _ _ (by omega)).trans h4, rfl⟩
  rcases b with b | b | b
  · exact dL_V b a
  · exact dV_W a b
  · exact dX_V b a
theorem mo_Cs.svv (h : mo_Cs t s) : mo_Sv t s.2.1 := ⟨h.2.2.1, by rw [h.2.2.2.2]; exact h.2.1.2.2⟩
theorem mo_Cs.len (h : mo_Cs t s) : s.1.2.2.2.2.length ≤ 16 := h.2.1.2.2.2.1
theorem i_neg {x : Int32} {n : Nat} (hx : x < 0) (hn : n < 2 ^ 31) : x < nI n := by
  rw [Int32.lt_iff_toInt_lt] at hx ⊢
  rw [nI_toInt hn]
  have : (0 : Int32).toInt = 0 := rfl
  omega
theorem i_m1 {x : Int32} (hx : x < 0) (h1 : ¬ x = -1) : x < -1 := by
  rw [Int32.lt_iff_toInt_lt] at hx ⊢
  have e0 : (0 : Int32).toInt = 0 := rfl
  have e1 : (-1 : Int32).toInt = -1 := by decide
  have : x.toInt ≠ -1 := fun z => h1 (Int32.toInt_inj.mp (by rw [e1]; exact z))
  omega
theorem i_m2 {x : Int32} (hx : x < 0) (h1 : ¬ x = -1) (h2 : ¬ x = -2) : x < -2 := by
  rw [Int32.lt_iff_toInt_lt] at hx ⊢
  have e0 : (0 : Int32).toInt = 0 := rfl
  have e1 : (-1 : Int32).toInt = -1 := by decide
  have e2 : (-2 : Int32).toInt = -2 := by decide
  have : x.toInt ≠ -1 := fun z => h1 (Int32.toInt_inj.mp (by rw [e1]; exact z))
  have : x.toInt ≠ -2 := fun z => h2 (Int32.toInt_inj.mp (by rw [e2]; exact z))
  omega
theorem y_isSlot (a : Int32) (t : ob_S) : X_Mo_isSlot a t = some (if in_bad a 1 then 0 else 1, t) := by
  rw [X_Mo_isSlot]
  by_cases c : in_bad a 1
  · rw [if_pos c, if_neg (fun z => by rw [z] at c; exact absurd c (by decide)), if_pos (fun z => by rw [z] at c; exact absurd c (by decide))]
    rfl
  · obtain ⟨k, hk, rfl⟩ := nb_in (by omega) c
    rcases (show k = 0 ∨ k = 1 by omega) with rfl | rfl <;> rfl
theorem mo_Sl.g2 {k : Nat} {F : Nat → Nat} {B : List Nat} (h : mo_Sl t k F B) : ob_i t 119 k = nI (F 6) ∧ ob_i t 127 k = nI B.length ∧ ob_i t 123 k = nI (F 12) ∧ ob_i t 124 k = nI (F 13) ∧ mo_rw t 126 (80 * k) B ∧ B.length ≤ 80 := by
  obtain ⟨a, q1, -⟩ := h
  have e6 := q1.2.2.2.2.2.1
  have e12 := q1.2.2.2.2.2.2.2.2.2.1
  have e13 := q1.2.2.2.2.2.2.2.2.2.2.1
  rw [up11_ne (by omega)] at e6 e12 e13
  exact ⟨e6, q1.2.2.2.2.2.2.2.2.2.2.2.2.1, e12, e13, q1.2.2.2.2.2.2.2.2.2.2.2.2.2⟩
theorem z_Mo_slot (h : mo_Cs t s) (a b : Int32) : X_Mo_slot 103 a b t = some (st_slot s a b, t) := by
  have hS := h.1
  have bad : B_Mo_slot_17 t = some (-1, t) := rfl
  rw [X_Mo_slot, mo_this hS, ob_b2_e (y_isSlot a t), st_slot]
  by_cases ca : in_bad a 1
  · rw [if_pos ca, if_pos rfl, bad, if_pos (Or.inl ca)]
  · rw [if_neg ca, if_neg (show ¬ (1 : Int32) = 0 by decide)]
    by_cases cb0 : b < 0
    · rw [if_pos cb0, bad, if_pos (Or.inr (Or.inl cb0))]
    · rw [if_neg cb0]
      by_cases cb : nI 6 < b
      · rw [if_neg (show ¬ b ≤ 6 from fun z => absurd (Int32.lt_of_lt_of_le cb z) (Int32.lt_irrefl)), bad, if_pos (Or.inr (Or.inr cb))]
      · have nb : ¬ in_bad b 6 := fun z => z.elim cb0 cb
        obtain ⟨k, hk, rfl⟩ := nb_in (by omega) ca
        obtain ⟨j, hj, rfl⟩ := nb_in (by omega) nb
        obtain ⟨e114, e116, e122, ok, so⟩ := (h.2.1.1 k (by omega)).1.g
        obtain ⟨e119, e127, e123, e124, -, -⟩ := (h.2.1.1 k (by omega)).1.g2
        have o2 := ok.1
        have o11 : s.1.1 k 11 < 2 := ok.2.2.2.2.2.2.2.2.2.1
        rw [if_pos (show nI j ≤ 6 from nI_le (b := 6) hj (by omega)), if_neg (show ¬ (in_bad (nI k) 1 ∨ in_bad (nI j) 6) from fun z => z.elim ca nb), nI_clamp (by omega), nI_clamp (by omega), ob_b_e (mo_r14 hS), ob_b_e (mo_a114 hS (by omega)), e114]
        by_cases c2 : s.1.1 k 2 = 0
        · rw [if_neg (show ¬ ¬ nI (s.1.1 k 2) = 0 from fun z => z (by rw [c2]; rfl)), sl_tell, if_pos c2]
          rfl
        · rw [if_pos (nI_ne0 (by omega) (by omega)), sl_tell, if_neg c2]
          rw [if_neg c2] at e122
          rcases (show j = 0 ∨ j = 1 ∨ j = 2 ∨ j = 3 ∨ j = 4 ∨ j = 5 ∨ j = 6 by omega) with rfl | rfl | rfl | rfl | rfl | rfl | rfl
          · rw [if_pos (show nI 0 = (0 : Int32) from rfl), if_pos rfl, ob_b_e (mo_r14 hS), ob_b_e (mo_a114 hS (by omega)), e114]
          · rw [if_neg (show ¬ nI 1 = (0 : Int32) by decide), if_pos (show nI 1 = (1 : Int32) from rfl), if_neg (by omega), if_pos rfl, ob_b_e (mo_r16 hS), ob_b_e (mo_a116 hS (by omega)), e116]
          · rw [if_neg (show ¬ nI 2 = (0 : Int32) by decide), if_neg (show ¬ nI 2 = (1 : Int32) by decide), if_pos (show nI 2 = (2 : Int32) from rfl), if_neg (by omega), if_neg (by omega), if_pos rfl, ob_b_e (mo_r19 hS), ob_b_e (mo_a119 hS (by omega)), e119]
          · rw [if_neg (show ¬ nI 3 = (0 : Int32) by decide), if_neg (show ¬ nI 3 = (1 : Int32) by decide), if_neg (show ¬ nI 3 = (2 : Int32) by decide), if_pos (show nI 3 = (3 : Int32) from rfl), if_neg (by omega), if_neg (by omega), if_neg (by omega), if_pos rfl, ob_b_e (mo_r27 hS), ob_b_e (mo_a127 hS (by omega)), e127]
          · rw [if_neg (show ¬ nI 4 = (0 : Int32) by decide), if_neg (show ¬ nI 4 = (1 : Int32) by decide), if_neg (show ¬ nI 4 = (2 : Int32) by decide), if_neg (show ¬ nI 4 = (3 : Int32) by decide), if_pos (show nI 4 = (4 : Int32) from rfl), if_neg (by omega), if_neg (by omega), if_neg (by omega), if_neg (by omega), if_pos rfl, ob_b_e (mo_r22 hS), ob_b_e (mo_a122 hS (by omega)), e122]
            by_cases c11 : s.1.1 k 11 = 0
            · rw [if_pos (show nI (s.1.1 k 11) = 0 by rw [c11]; rfl), c11]
              rfl
            · rw [if_neg (nI_ne0 (by omega) (by omega)), show s.1.1 k 11 = 1 by omega]
              rfl
          · rw [if_neg (show ¬ nI 5 = (0 : Int32) by decide), if_neg (show ¬ nI 5 = (1 : Int32) by decide), if_neg (show ¬ nI 5 = (2 : Int32) by decide), if_neg (show ¬ nI 5 = (3 : Int32) by decide), if_neg (show ¬ nI 5 = (4 : Int32) by decide), if_pos (show nI 5 = (5 : Int32) from rfl), if_neg (by omega), if_neg (by omega), if_neg (by omega), if_neg (by omega), if_neg (by omega), if_pos rfl, ob_b_e (mo_r22 hS), ob_b_e (mo_a122 hS (by omega)), e122]
            by_cases c11 : s.1.1 k 11 = 0
            · rw [if_pos (show nI (s.1.1 k 11) = 0 by rw [c11]; rfl), so.2.2.2 c11]
              rfl
            · rw [if_neg (nI_ne0 (by omega) (by omega)), ob_b_e (mo_r23 hS), ob_b_e (mo_a123 hS (by omega)), e123]
          · rw [if_neg (show ¬ nI 6 = (0 : Int32) by decide), if_neg (show ¬ nI 6 = (1 : Int32) by decide), if_neg (show ¬ nI 6 = (2 : Int32) by decide), if_neg (show ¬ nI 6 = (3 : Int32) by decide), if_neg (show ¬ nI 6 = (4 : Int32) by decide), if_neg (show ¬ nI 6 = (5 : Int32) by decide), if_neg (by omega), if_neg (by omega), if_neg (by omega), if_neg (by omega), if_neg (by omega), if_neg (by omega), ob_b_e (mo_r14 hS), ob_b_e (mo_a114 hS (by omega)), e114]
            by_cases c4 : s.1.1 k 2 = 4
            · rw [if_neg (show ¬ ¬ nI (s.1.1 k 2) = (4 : Int32) from fun z => z (by rw [c4]; rfl)), if_pos c4, ob_b_e (mo_r24 hS), ob_b_e (mo_a124 hS (by omega)), e124]
            · rw [if_pos (show ¬ nI (s.1.1 k 2) = (4 : Int32) from fun z => c4 ((nI_eq (b := 4) (by omega) (by omega)).mp z)), if_neg c4]
              rfl
theorem z_Mo_body (h : mo_Cs t s) (a i : Int32) : X_Mo_body 103 a i t = some (st_body s a i, t) := by
  have hS := h.1
  have bad : B_Mo_body_30 t = some (-1, t) := rfl
  rw [X_Mo_body, mo_this hS, ob_b2_e (y_isSlot a t), st_body]
  by_cases ca : in_bad a 1
  · rw [if_pos ca, if_pos rfl, bad, if_pos ca]
  · rw [if_neg ca, if_neg (show ¬ (1 : Int32) = 0 by decide), if_neg ca]
    obtain ⟨k, hk, rfl⟩ := nb_in (by omega) ca
    obtain ⟨e114, e116, e122, ok, so⟩ := (h.2.1.1 k (by omega)).1.g
    obtain ⟨e119, e127, e123, e124, er, hl⟩ := (h.2.1.1 k (by omega)).1.g2
    have o2 := ok.1
    rw [nI_clamp (by omega), ob_b_e (mo_r14 hS), ob_b_e (mo_a114 hS (by omega)), e114]
    by_cases c2 : s.1.1 k 2 = 0
    · rw [if_pos (show nI (s.1.1 k 2) = 0 by rw [c2]; rfl), bad, if_pos c2]
    · rw [if_neg (nI_ne0 (by omega) (by omega)), if_neg c2, rw_at]
      by_cases ci : i < 0
      · rw [if_pos ci, bad, if_pos (Or.inl ci)]
      · rw [if_neg ci, ob_b_e (mo_r27 hS), ob_b_e (mo_a127 hS (by omega)), e127]
        obtain ⟨j, hj, rfl⟩ := nI_of ci
        by_cases cj : j < (s.1.2.1 k).length
        · rw [if_pos (nI_lt cj (by omega)), ob_b_e (mo_r26 hS), mo_x80, ob_b_e (mo_a126 hS (by omega)), er j cj, if_neg (fun z => z.elim ci (nI_ge cj (by omega))), nI_clamp hj]
        · rw [if_neg (nI_nlt (by omega) (by omega)), bad, if_pos (Or.inr (nI_le (by omega) (by omega)))]
theorem z_Mo_content (h : mo_Cs t s) (a i : Int32) : X_Mo_content 103 a i t = some (st_content s a i, t) := by
  have hS := h.1
  have bad : B_Mo_content_24 t = some (-1, t) := rfl
  rw [X_Mo_content, mo_this hS, st_content]
  by_cases ca : in_bad a 3
  · rw [if_pos ca, bad]
    rcases ca with z | z
    · rw [if_pos z]
    · split
      · rfl
      · rw [if_pos (show (3 : Int32) < a from z)]
  · obtain ⟨r, hr, rfl⟩ := nb_in (x := a) (m := 3) (by omega) ca
    obtain ⟨e129, er, hl, -⟩ := h.2.2.1.2.2.2.1 r (by omega)
    rw [if_neg ca, if_neg (fun z => ca (Or.inl z)), if_neg (show ¬ (3 : Int32) < nI r from fun z => ca (Or.inr z)), nI_clamp (by omega)]
    by_cases c1 : i = -1
    · subst c1
      rw [if_neg (show ¬ (-1 : Int32) < -1 by decide), ob_b_e (mo_r29 hS), ob_b_e (mo_a129 hS (by omega)), e129, if_pos (show (-1 : Int32) < nI (s.2.1.1 r).length from i_neg (by decide) (by omega)), if_neg (fun z => z rfl), ob_b_e (mo_r29 hS), ob_b_e (mo_a129 hS (by omega)), e129, if_pos rfl]
    · rw [if_neg c1, rw_at]
      by_cases ci : i < 0
      · rw [if_pos (i_m1 ci c1), bad, if_pos (Or.inl ci)]
      · have nm : ¬ i < -1 := fun z => ci (Int32.lt_trans z (by decide))
        rw [if_neg nm, ob_b_e (mo_r29 hS), ob_b_e (mo_a129 hS (by omega)), e129]
        obtain ⟨j, hj, rfl⟩ := nI_of ci
        by_cases cj : j < (s.2.1.1 r).length
        · rw [if_pos (nI_lt cj (by omega)), if_pos c1, ob_b_e (mo_r28 hS), mo_x64, ob_b_e (mo_a128 hS (by omega)), er j cj, if_neg (fun z => z.elim ci (nI_ge cj (by omega))), nI_clamp hj]
        · rw [if_neg (nI_nlt (by omega) (by omega)), bad, if_pos (Or.inr (nI_le (by omega) (by omega)))]
theorem z_Mo_server (h : mo_Cs t s) (a : Int32) : X_Mo_server 103 a t = some (st_server s a, t) := by
  have hS := h.1
  obtain ⟨h38, h37, h6, hC, hQ, hW, hM⟩ := h.2.2.1
  rw [X_Mo_server, mo_this hS, st_server]
  by_cases c0 : a = 0
  · rw [if_neg (fun z => z c0), if_pos c0, ob_b_e (mo_g hS), h38]
  · rw [if_pos c0, if_neg c0]
    by_cases c1 : a = 1
    · rw [if_neg (fun z => z c1), if_pos c1, ob_b_e (mo_g hS), hW.1]
    · rw [if_pos c1, if_neg c1]
      by_cases c2 : a = 2
      · rw [if_neg (fun z => z c2), if_pos c2, ob_b_e (mo_g hS), h37.1]
      · rw [if_pos c2, if_neg c2]
        by_cases c3 : a = 3
        · have e : ∀ r, r < 4 → ob_aI 131 (nI r) t = some (nI (s.2.1.2.1 r).length) := fun r hr => by
            rw [mo_a131 hS hr, (hQ r hr).1]
          rw [if_neg (fun z => z c3), if_pos c3, ob_b_e (mo_r31 hS), ob_b_e (show ob_aI 131 0 t = _ from e 0 (by omega)), ob_b_e (mo_r31 hS), ob_b_e (show ob_aI 131 1 t = _ from e 1 (by omega)), ob_b_e (mo_r31 hS), ob_b_e (show ob_aI 131 2 t = _ from e 2 (by omega)), ob_b_e (mo_r31 hS), ob_b_e (show ob_aI 131 3 t = _ from e 3 (by omega)), nI_add, nI_add, nI_add]
        · rw [if_pos c3, if_neg c3]
theorem z_Mo_waiting (h : mo_Cs t s) : X_Mo_waiting 103 t = some (nI s.1.2.2.2.2.length, t) := by
  rw [X_Mo_waiting, mo_this h.1, ob_b_e (mo_g h.1), h.2.1.2.2.1]
theorem y_isDatagram (h : mo_Cs t s) (k : Int32) : X_Mo_isDatagram 103 k t = some (if ln_bad s k then 0 else 1, t) := by
  have hS := h.1
  have bad : B_Mo_isDatagram_16 t = some (0, t) := rfl
  rw [X_Mo_isDatagram, mo_this hS, ob_b_e (mo_g hS), h.2.1.2.2.1]
  by_cases c : k < 0
  · rw [if_pos c, if_pos (Or.inl c), bad]
  · rw [if_neg c]
    by_cases d : nI s.1.2.2.2.2.length ≤ k
    · rw [if_pos d, if_pos (Or.inr d), bad]
    · rw [if_neg d, if_neg (fun z => z.elim c d)]
      rfl
theorem mo_Cs.dg (h : mo_Cs t s) {j : Nat} (hj : j < s.1.2.2.2.2.length) : ∃ q, s.1.2.2.2.2[j]? = some q ∧ mo_dg t j q := ⟨_, List.getElem?_eq_getElem hj, h.2.1.2.2.2.2 j _ (List.getElem?_eq_getElem hj)⟩
theorem z_Mo_datagram (h : mo_Cs t s) (k i : Int32) : X_Mo_datagram 103 k i t = some (st_datagram s k i, t) := by
  have hS := h.1
  have bad : B_Mo_datagram_24 t = some (-1, t) := rfl
  have hl := h.len
  rw [X_Mo_datagram, mo_this hS, ob_b2_e (y_isDatagram h k), st_datagram]
  by_cases c : ln_bad s k
  · rw [if_pos c, if_pos rfl, bad, if_pos c]
  · obtain ⟨j, hj, rfl⟩ := ln_in h.len c
    obtain ⟨q, hq, d1, d2, d3, d4, d5⟩ := h.dg hj
    rw [if_neg c, if_neg (show ¬ (1 : Int32) = 0 by decide), if_neg c, nI_clamp (by omega), hq]
    by_cases c1 : i = -1
    · subst c1
      rw [if_neg (show ¬ (-1 : Int32) < -2 by decide), ob_b_e (mo_r1 hS), ob_b_e (mo_a105 hS (by omega)), d1, if_pos (show (-1 : Int32) < nI q.1.length from i_neg (by decide) (by omega)), if_neg (fun z => z rfl), ob_b_e (mo_r1 hS), ob_b_e (mo_a105 hS (by omega)), d1, if_pos rfl]
      rfl
    · rw [if_neg c1]
      by_cases c2 : i = -2
      · subst c2
        rw [if_neg (show ¬ (-2 : Int32) < -2 by decide), ob_b_e (mo_r1 hS), ob_b_e (mo_a105 hS (by omega)), d1, if_pos (show (-2 : Int32) < nI q.1.length from i_neg (by decide) (by omega)), if_pos c1, if_neg (fun z => z rfl), ob_b_e (mo_r2 hS), ob_b_e (mo_a106 hS (by omega)), d2, if_pos rfl]
        rfl
      · rw [if_neg c2, rw_at]
        show _ = some (if i < 0 ∨ nI q.1.length ≤ i then -1 else nI (q.1.getD i.toNatClampNeg 0), t)
        by_cases ci : i < 0
        · rw [if_pos (i_m2 ci c1 c2), bad, if_pos (Or.inl ci)]
        · have nm : ¬ i < -2 := fun z => ci (Int32.lt_trans z (by decide))
          rw [if_neg nm, ob_b_e (mo_r1 hS), ob_b_e (mo_a105 hS (by omega)), d1]
          obtain ⟨m, hm, rfl⟩ := nI_of ci
          by_cases cj : m < q.1.length
          · rw [if_pos (nI_lt cj (by omega)), if_pos c1, if_pos c2, ob_b_e (mo_r0 hS), mo_x64, ob_b_e (mo_a104 hS (by omega)), d3 m cj, if_neg (fun z => z.elim ci (nI_ge cj (by omega))), nI_clamp hm]
          · rw [if_neg (nI_nlt (by omega) (by omega)), bad, if_pos (Or.inr (nI_le (by omega) (by omega)))]
end YCS

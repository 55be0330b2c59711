/-! LAYER 2, 56: the first store -/
noncomputable def in_u1 : ob_S := (X_Ob_init 0 (ob_new ob_nil 10 0)).getD ob_nil
noncomputable def in_u2 : ob_S := (X_Mo_init 103 (ob_new in_u1 11 0)).getD ob_nil
theorem in_get {α : Type} {o : Option α} {d : α} (h : o.isSome = true) : o = some (o.getD d) := by
  cases o with
  | none => cases h
  | some x => rfl
theorem in_e1 : X_Ob_init 0 (ob_new ob_nil 10 0) = some in_u1 := in_get (by decide +kernel)
theorem in_e2 : X_Mo_init 103 (ob_new in_u1 11 0) = some in_u2 := in_get (by decide +kernel)
abbrev in_by (n a m : Nat) : Prop := ob_is in_u2 n 0 ∧ ob_r in_u2 n 0 = some a ∧ ob_is in_u2 a 12 ∧ ob_l in_u2 a = m ∧ ob_i in_u2 n 1 = 0
theorem in_by.by {n a m : Nat} (h : in_by n a m) (hm : m < 1000) : ob_By in_u2 n a m [] := ⟨h.1, h.2.1, h.2.2.1, h.2.2.2.1, hm, Nat.zero_le _, h.2.2.2.2, fun i hi => absurd hi (Nat.not_lt_zero _)⟩
theorem in_f1 : ∀ k, k < 16 → in_by (4 + 2 * k) (5 + 2 * k) 48 := by decide +kernel
theorem in_f2 : ∀ r, r < 4 → in_by (56 + 4 * r) (56 + 4 * r + 1) 64 ∧ in_by (58 + 4 * r) (58 + 4 * r + 1) 64 := by decide +kernel
theorem in_f3 : ∀ k, k < 4 → in_by (85 + 2 * k) (86 + 2 * k) 48 := by decide +kernel
theorem in_f4 : ∀ s, s < 2 → in_by (38 + 6 * s + 1) (38 + 6 * s + 2) 80 ∧ in_by (38 + 6 * s + 4) (38 + 6 * s + 5) 48 := by decide +kernel
theorem in_f5 : ∀ j, j < 2 → in_by (75 + 4 * j) (76 + 4 * j) 48 := by decide +kernel
theorem in_f6 : in_by 51 52 48 ∧ in_by 94 95 48 ∧ in_by 97 98 12 ∧ in_by 99 100 12 ∧ in_by 101 102 32 := by decide +kernel
/-- the first state -/
def in_s : st_S := ((fun s k => if k = 8 then s else 0, fun _ => [], fun _ => none, 1, []), (fun _ => [], fun _ => [], [], [], 0, 0, 1, []), 0)
theorem in_o : ob_Ot in_u2 0 := by
  unfold ob_Ot
  decide +kernel
theorem in_pe : ∀ s, s < 2 → (ob_is in_u2 (38 + 6 * s + 3) 3 ∧ ob_r in_u2 (38 + 6 * s + 3) 0 = some (38 + 6 * s + 4) ∧ ob_i in_u2 (38 + 6 * s + 3) 2 = 0) ∧ ob_is in_u2 (38 + 6 * s) 6 ∧ ob_r in_u2 (38 + 6 * s) 0 = some (38 + 6 * s + 1) ∧ ob_r in_u2 (38 + 6 * s) 1 = some (38 + 6 * s + 3) ∧ ∀ k, k < 14 → 2 ≤ k → ob_i in_u2 (38 + 6 * s) k = nI (if k = 8 then s else 0) := by decide +kernel
theorem in_cl : ob_Cl in_u2 1 := by
  unfold ob_Cl
  decide +kernel
theorem in_li : ob_LiS in_u2 ∧ ob_i in_u2 1 2 = 0 ∧ ∀ k, k < 16 → ob_r in_u2 2 k = some (4 + 2 * k) := by
  unfold ob_LiS
  decide +kernel
theorem in_wr : ob_is in_u2 50 4 ∧ ob_r in_u2 50 0 = some 51 ∧ ob_i in_u2 50 1 = 0 ∧ ob_is in_u2 93 4 ∧ ob_r in_u2 93 0 = some 94 ∧ ob_i in_u2 93 1 = 0 := by decide +kernel
theorem in_sh : sv_sh in_u2 := by
  unfold sv_sh
  decide +kernel
theorem in_sc : ob_i in_u2 53 1 = 0 ∧ ob_i in_u2 53 2 = 0 ∧ ob_i in_u2 53 3 = 0 ∧ ob_i in_u2 53 9 = 1 := by decide +kernel
theorem in_ws : ∀ j, j < 2 → ob_r in_u2 72 j = some (73 + 4 * j) ∧ ob_is in_u2 (73 + 4 * j) 5 ∧ ob_r in_u2 (73 + 4 * j) 0 = some (74 + 4 * j) ∧ ob_i in_u2 (73 + 4 * j) 1 = 0 ∧ ob_i in_u2 (73 + 4 * j) 2 = 0 ∧ ob_i in_u2 (73 + 4 * j) 3 = 0 ∧ ob_i in_u2 (73 + 4 * j) 4 = 0 ∧ ob_is in_u2 (74 + 4 * j) 3 ∧ ob_r in_u2 (74 + 4 * j) 0 = some (75 + 4 * j) ∧ ob_i in_u2 (74 + 4 * j) 2 = 0 := by decide +kernel
theorem in_me : ob_MeS in_u2 ∧ ob_i in_u2 81 3 = 0 ∧ ∀ k, k < 4 → ob_r in_u2 82 k = some (85 + 2 * k) := by
  unfold ob_MeS
  decide +kernel
theorem in_ms : ob_is in_u2 96 8 ∧ ob_r in_u2 96 8 = some 97 ∧ ob_r in_u2 96 9 = some 99 ∧ ob_r in_u2 96 10 = some 101 ∧ ob_i in_u2 96 7 = 0 := by decide +kernel
theorem in_mo : mo_sh in_u2 := by
  unfold mo_sh
  decide +kernel
theorem in_mc : (∀ s, s < 2 → (∀ n, n < 128 → 114 ≤ n → ob_i in_u2 n s = 0) ∧ ob_i in_u2 107 s = 0) ∧ ob_i in_u2 103 5 = 1 ∧ ob_i in_u2 103 3 = 0 ∧ ob_i in_u2 103 4 = 0 ∧ ob_i in_u2 103 38 = 0 ∧ ob_i in_u2 103 37 = 0 ∧ ob_i in_u2 103 6 = 1 ∧ ob_i in_u2 103 32 = 0 ∧ ob_i in_u2 103 39 = 0 ∧ ∀ r, r < 4 → ob_i in_u2 129 r = 0 ∧ ob_i in_u2 131 r = 0 := by decide +kernel
theorem in_ok (s : Nat) (hs : s < 2) : sl_ok (fun k => if k = 8 then s else 0) [] := by
  rcases (show s = 0 ∨ s = 1 by omega) with rfl | rfl
  · exact ⟨by decide, by decide, by decide, by decide, by decide, by decide, by decide, by decide, by decide, by decide, by decide, by decide, by decide, fun x hx => by cases hx⟩
  · exact ⟨by decide, by decide, by decide, by decide, by decide, by decide, by decide, by decide, by decide, by decide, by decide, by decide, by decide, fun x hx => by cases hx⟩
theorem in_Pe {p n a : Nat} (h1 : ob_is in_u2 p 3) (h2 : ob_r in_u2 p 0 = some n) (h3 : ob_i in_u2 p 2 = 0) (h4 : p ≠ n) (h5 : p ≠ a) (hb : in_by n a 48) : ob_Pe in_u2 p n a none := ⟨h1, h2, h4, h5, ⟨[], hb.by (by omega)⟩, h3⟩
theorem in_Cs : ob_Cs in_u2 in_s := by
  refine ⟨in_o, ⟨fun s hs => ?_, in_cl, ?_, ⟨[], 0, ?_⟩⟩, ⟨in_sh, ?_, fun r hr => ⟨(in_f2 r hr).1.by (by omega), fun x hx => by cases hx⟩, fun r hr => ⟨(in_f2 r hr).2.by (by omega), fun x hx => by cases hx⟩, ?_, ?_, ?_, ⟨[], 0, ?_⟩, fun q hq => by cases hq⟩, rfl, ⟨fun k => ob_i in_u2 96 k, [], [], ?_⟩⟩
  · obtain ⟨⟨p1, p2, p3⟩, p4, p5, p6, p7⟩ := in_pe s hs
    refine ⟨⟨p4, p5, p6, (in_f4 s hs).1.by (by omega), in_Pe p1 p2 p3 (by omega) (by omega) (in_f4 s hs).2, fun k h2 h14 => p7 k h14 h2⟩, ?_⟩
    show sl_ok (fun k => if k = 8 then s else 0) []
    exact in_ok s hs
  · exact ⟨in_li.1, by decide, in_li.2.1, fun k => k, fun i hi => hi, fun i j _ _ e => e, in_li.2.2, fun k hk => ⟨[], (in_f1 k hk).by (by omega)⟩, fun k q e => by simp [in_s] at e⟩
  · exact ⟨in_wr.1, in_wr.2.1, in_f6.1.by (by omega), in_wr.2.2.1, by decide, by decide⟩
  · exact ⟨in_sc.1, in_sc.2.1, in_sc.2.2.1, in_sc.2.2.2, by decide, by decide⟩
  · refine ⟨by decide, fun k => k, fun i hi => hi, fun i j _ _ e => e, fun k hk => (in_ws k hk).1, fun k hk => ⟨(0, 0, 0, 0, none), ?_⟩, fun k v e => by simp [in_s] at e⟩
    obtain ⟨-, w1, w2, w3, w4, w5, w6, w7, w8, w9⟩ := in_ws k hk
    exact ⟨w1, w2, w3, w4, w5, w6, in_Pe w7 w8 w9 (by omega) (by omega) (in_f5 k hk), by decide, by decide, by decide, by decide⟩
  · exact ⟨in_me.1, by decide, in_me.2.1, fun k => k, fun i hi => hi, fun i j _ _ e => e, in_me.2.2, fun k hk => ⟨[], (in_f3 k hk).by (by omega)⟩, fun k q e => by simp [in_s] at e⟩
  · exact ⟨in_li.1, by decide, in_li.2.1, fun k => k, fun i hi => hi, fun i j _ _ e => e, in_li.2.2, fun k hk => ⟨[], (in_f1 k hk).by (by omega)⟩, fun k q e => by simp [in_s] at e⟩
  · exact ⟨in_wr.2.2.2.1, in_wr.2.2.2.2.1, in_f6.2.1.by (by omega), in_wr.2.2.2.2.2, by decide, by decide⟩
  · exact ⟨in_ms.1, in_ms.2.1, in_ms.2.2.1, in_ms.2.2.2.1, fun k _ => rfl, in_ms.2.2.2.2, by decide, in_f6.2.2.1.by (by omega), in_f6.2.2.2.1.by (by omega), in_f6.2.2.2.2.by (by omega)⟩
theorem in_Mo : mo_Cs in_u2 in_s := by
  obtain ⟨m1, m2, m3, m4, m5, m6, m7, m8, m9, m10⟩ := in_mc
  refine ⟨in_mo, ⟨fun s hs => ⟨?_, (m1 s hs).2⟩, ⟨m2, by decide⟩, ⟨m3, by decide, fun k q e => by simp [in_s] at e⟩⟩, ⟨m5, ⟨m6, by decide⟩, ⟨m7, by decide⟩, fun r hr => ?_, fun r hr => ?_, ⟨m8, by decide, fun k x e => by simp [in_s] at e⟩, ⟨m9, by decide, fun k q e => by simp [in_s] at e⟩⟩, m4, rfl⟩
  · have z := (m1 s hs).1
    show mo_Sl in_u2 s (fun k => if k = 8 then s else 0) []
    refine ⟨0, ?_, fun h => by simp at h, ?_, ?_⟩
    · have e : ∀ k, k ≠ 8 → up11 (fun k => if k = 8 then s else 0) k = 0 := fun k hk => by
        by_cases c : k = 11
        · subst c
          rw [up11_11, if_pos (by simp)]
        · rw [up11_ne c, if_neg hk]
      refine ⟨?_, ?_, ?_, ?_, ?_, ?_, ?_, ?_, ?_, ?_, ?_, ?_, ?_, fun i hi => absurd hi (Nat.not_lt_zero _), by decide⟩
      · rw [e _ (by omega)]; exact z 114 (by omega) (by omega)
      · rw [e _ (by omega)]; exact z 115 (by omega) (by omega)
      · rw [e _ (by omega)]; exact z 116 (by omega) (by omega)
      · rw [e _ (by omega)]; exact z 117 (by omega) (by omega)
      · rw [e _ (by omega)]; exact z 118 (by omega) (by omega)
      · rw [e _ (by omega)]; exact z 119 (by omega) (by omega)
      · rw [e _ (by omega)]; exact z 120 (by omega) (by omega)
      · rw [e _ (by omega)]; exact z 121 (by omega) (by omega)
      · rw [e _ (by omega)]; exact z 122 (by omega) (by omega)
      · rw [e _ (by omega)]; exact z 123 (by omega) (by omega)
      · rw [e _ (by omega)]; exact z 124 (by omega) (by omega)
      · exact z 125 (by omega) (by omega)
      · exact z 127 (by omega) (by omega)
    · exact in_ok s hs
    · exact ⟨rfl, fun h => absurd rfl h, fun h => absurd rfl h, fun _ => rfl⟩
  · exact ⟨(m10 r hr).1, fun i hi => absurd hi (Nat.not_lt_zero _), by show 0 ≤ 64; omega, fun x hx => by cases hx⟩
  · exact ⟨(m10 r hr).2, fun i hi => absurd hi (Nat.not_lt_zero _), by show 0 ≤ 64; omega, fun x hx => by cases hx⟩
theorem in_Rel : ob_Init (Rel 0) := by
  refine ⟨in_u1, in_u2, in_e1, in_e2, in_s, in_Cs, in_Mo, fun k _ => rfl, fun k => ?_⟩
  show (if (9 : Nat) = 8 then k else 0) ≤ 0
  rw [if_neg (by omega)]
  exact Nat.le_refl 0

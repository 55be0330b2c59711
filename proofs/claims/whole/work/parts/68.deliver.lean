/-! LAYER 2, 29: what a row that is read says; deliver -/
theorem ps_num_val {V : List Nat} (h : ∀ x ∈ V, x < 256) : ps_num V = -1 ∨ ∃ x, x < 65536 ∧ ps_num V = nI x := by
  match V, h with
  | [], _ => exact Or.inr ⟨0, by omega, rfl⟩
  | [x], h =>
    rw [ps_num]
    by_cases c : x = 0
    · rw [if_pos c]; exact Or.inl rfl
    · rw [if_neg c]; exact Or.inr ⟨x, by have := h x (by simp); omega, rfl⟩
  | [x, y], h =>
    rw [ps_num]
    by_cases c : x = 0
    · rw [if_pos c]; exact Or.inl rfl
    · rw [if_neg c]; exact Or.inr ⟨256 * x + y, by have := h x (by simp); have := h y (by simp); omega, rfl⟩
  | x :: y :: z :: V, _ => exact Or.inl rfl
theorem ps_blk_val {x : Nat} (hx : x < 65536) (h : ¬ ps_blkb (nI x) = 0) : x ≤ 1023 ∧ x % 8 < 2 := by
  unfold ps_blkb at h
  by_cases c1 : nI x = -1
  · rw [if_pos c1] at h; exact absurd rfl h
  · rw [if_neg c1] at h
    by_cases c2 : (1023 : Int32) < nI x
    · rw [if_pos c2] at h; exact absurd rfl h
    · rw [if_neg c2] at h
      rw [pk_andN (by omega) (m := 7) 3 (by decide)] at h
      by_cases c3 : (1 : Int32) < nI (x % 2 ^ 3)
      · rw [if_pos c3] at h; exact absurd rfl h
      · refine ⟨?_, ?_⟩
        · rcases Nat.lt_or_ge 1023 x with z | z
          · exact absurd (nI_lt (a := 1023) z (by omega)) c2
          · exact z
        · rcases Nat.lt_or_ge 1 (x % 8) with z | z
          · exact absurd (nI_lt (a := 1) z (by omega)) c3
          · omega
/-- what the reader holds -/
def ps_inv (ty code id : Nat) (tok : Option Nat) (F : Nat → Int32) (S : List (List Nat)) : Prop := ∃ w b2 b1, (∀ k, k < 7 → F k = mF ty code id tok w b2 b1 k) ∧ (∀ x, w = some x → x < 65536) ∧ bk_ok b2 ∧ bk_ok b1 ∧ sg_ok S
theorem ps_v_ok {L : List Nat} (h : ∀ x ∈ L, x < 256) (p : Nat) : ∀ x ∈ ps_v L p, x < 256 := fun x hx => h x (List.mem_of_mem_drop (List.mem_of_mem_take hx))
theorem ps_keep_inv {ty code id : Nat} {tok : Option Nat} {L : List Nat} {p n : Nat} {F : Nat → Int32} {S : List (List Nat)} {r : (Nat → Int32) × List (List Nat)} (hL : ∀ x ∈ L, x < 256) (h : ps_inv ty code id tok F S) (hk : ps_keep L p n F S = some r) : ps_inv ty code id tok r.1 r.2 := by
  obtain ⟨w, b2, b1, e, hw, h2, h1, hs⟩ := h
  have hv := ps_num_val (ps_v_ok hL p)
  have up : ∀ (j : Nat) (G : Nat → Int32) (y : Int32), (∀ k, k < 7 → k ≠ j → F k = G k) → (G j = y) → ∀ k, k < 7 → upd F j y k = G k := by
    intro j G y h1 h2 k hk
    by_cases c : k = j
    · subst c; rw [pk_us, h2]
    · rw [pk_un c]; exact h1 k hk c
  unfold ps_keep at hk
  by_cases c6 : n = 6
  · rw [if_pos c6] at hk
    by_cases z : ps_num (ps_v L p) = -1
    · rw [if_pos z] at hk; cases hk
    · rw [if_neg z] at hk
      cases hk
      rcases hv with y | ⟨x, hx, y⟩
      · exact absurd y z
      · refine ⟨some x, b2, b1, up 4 _ _ (fun k hk hne => ?_) (by rw [y]; rfl), fun q hq => by cases hq; exact hx, h2, h1, hs⟩
        rw [e k hk]
        unfold mF
        simp [hne]
  · rw [if_neg c6] at hk
    by_cases c11 : n = 11
    · rw [if_pos c11] at hk
      by_cases z : S.length = 2
      · rw [if_pos z] at hk; cases hk
      · rw [if_neg z] at hk
        cases hk
        refine ⟨w, b2, b1, e, hw, h2, h1, fun V hV x hx => ?_⟩
        rcases List.mem_append.mp hV with q | q
        · exact hs V q x hx
        · rw [List.mem_singleton.mp q] at hx
          exact ps_v_ok hL p x hx
    · rw [if_neg c11] at hk
      by_cases c23 : n = 23
      · rw [if_pos c23] at hk
        by_cases z : ps_blkb (ps_num (ps_v L p)) = 0
        · rw [if_pos z] at hk; cases hk
        · rw [if_neg z] at hk
          cases hk
          rcases hv with y | ⟨x, hx, y⟩
          · rw [y] at z; exact absurd rfl z
          · rw [y] at z
            refine ⟨w, some x, b1, up 5 _ _ (fun k hk hne => ?_) (by rw [y]; rfl), hw, fun q hq => by cases hq; exact ps_blk_val hx z, h1, hs⟩
            rw [e k hk]
            unfold mF
            simp [hne]
      · rw [if_neg c23] at hk
        by_cases c27 : n = 27
        · rw [if_pos c27] at hk
          by_cases z : ps_blkb (ps_num (ps_v L p)) = 0
          · rw [if_pos z] at hk; cases hk
          · rw [if_neg z] at hk
            cases hk
            rcases hv with y | ⟨x, hx, y⟩
            · rw [y] at z; exact absurd rfl z
            · rw [y] at z
              refine ⟨w, b2, some x, up 6 _ _ (fun k hk hne => ?_) (by rw [y]; rfl), hw, h2, fun q hq => by cases hq; exact ps_blk_val hx z, hs⟩
              rw [e k hk]
              rcases (show k = 0 ∨ k = 1 ∨ k = 2 ∨ k = 3 ∨ k = 4 ∨ k = 5 by omega) with rfl | rfl | rfl | rfl | rfl | rfl <;> rfl
        · rw [if_neg c27] at hk; cases hk
theorem ps_opts_inv {ty code id : Nat} {tok : Option Nat} {L : List Nat} (hL : ∀ x ∈ L, x < 256) : ∀ (f : Nat) (q q' : ps_Q), ps_inv ty code id tok q.2.2.1 q.2.2.2 → ps_opts L f q = some q' → ps_inv ty code id tok q'.2.2.1 q'.2.2.2 := by
  intro f
  induction f with
  | zero => intro q q' h e; cases e
  | succ f ih =>
    intro q q' h e
    rw [ps_opts] at e
    by_cases ca : ps_at L q.1
    · rw [if_pos ca] at e
      by_cases ch : ps_hd L q.1 q.2.1
      · rw [if_pos ch] at e
        cases hk : ps_keep L q.1 (q.2.1 + ps_d L q.1) q.2.2.1 q.2.2.2 with
        | none => rw [hk] at e; cases e
        | some r =>
          rw [hk] at e
          exact ih _ q' (ps_keep_inv hL h hk) e
      · rw [if_neg ch] at e; cases e
    · rw [if_neg ca] at e
      cases e
      exact h
theorem ps_F_mF (ty code id : Nat) (tok : Option Nat) : ∀ k, k < 7 → ps_F ty code id (oI tok) k = mF ty code id tok none none none k := by
  intro k hk
  rcases (show k = 0 ∨ k = 1 ∨ k = 2 ∨ k = 3 ∨ k = 4 ∨ k = 5 ∨ k = 6 by omega) with rfl | rfl | rfl | rfl | rfl | rfl | rfl <;> rfl
theorem ps_get_lt {L : List Nat} (hL : ∀ x ∈ L, x < 256) (k : Nat) : L.getD k 0 < 256 := by
  rw [List.getD_eq_getElem?_getD]
  cases hk : L[k]? with
  | none => simp
  | some x => exact hL x (List.mem_of_getElem? hk)
theorem ps_read_ok {L : List Nat} {r : (Nat → Int32) × List (List Nat) × List Nat} (hL : ∀ x ∈ L, x < 256) (h : ps_read L = some r) : ∃ ty code id tok w b2 b1, (∀ k, k < 7 → r.1 k = mF ty code id tok w b2 b1 k) ∧ ms_ok ty code id tok w b2 b1 r.2.2 ∧ sg_ok r.2.1 ∧ (code ≠ 0 → ∃ tk, tok = some tk) := by
  have g1 := ps_get_lt hL 1
  have g2 := ps_get_lt hL 2
  have g3 := ps_get_lt hL 3
  have g4 := ps_get_lt hL 4
  unfold ps_read at h
  by_cases c : 4 ≤ L.length ∧ L.getD 0 0 / 64 = 1 ∧ L.getD 0 0 % 16 = (if L.getD 1 0 = 0 then 0 else 1)
  · rw [if_pos c] at h
    by_cases c0 : L.getD 1 0 = 0
    · rw [if_pos c0] at h
      by_cases c4 : L.length = 4
      · rw [if_pos c4] at h
        cases h
        exact ⟨L.getD 0 0 / 16 % 4, L.getD 1 0, 256 * L.getD 2 0 + L.getD 3 0, none, none, none, none, ps_F_mF _ _ _ none, ⟨Nat.mod_lt _ (by omega), g1, by omega, (fun x hx => by cases hx), (fun x hx => by cases hx), (fun x hx => by cases hx), (fun x hx => by cases hx), by simp, (fun x hx => by cases hx)⟩, (fun V hV => by cases hV), fun z => absurd c0 z⟩
      · rw [if_neg c4] at h; cases h
    · rw [if_neg c0] at h
      by_cases c5 : 5 ≤ L.length
      · rw [if_pos c5] at h
        cases ho : ps_opts L 6 (5, 0, ps_F (L.getD 0 0 / 16 % 4) (L.getD 1 0) (256 * L.getD 2 0 + L.getD 3 0) (nI (L.getD 4 0)), []) with
        | none => rw [ho] at h; cases h
        | some q =>
          rw [ho] at h
          have h : (if q.1 = L.length then some (q.2.2.1, q.2.2.2, []) else if q.1 + 1 < L.length ∧ L.length - q.1 - 1 ≤ 32 then some (q.2.2.1, q.2.2.2, L.drop (q.1 + 1)) else none) = some r := h
          obtain ⟨w, b2, b1, e, hw, h2, h1, hs⟩ := ps_opts_inv (ty := L.getD 0 0 / 16 % 4) (code := L.getD 1 0) (id := 256 * L.getD 2 0 + L.getD 3 0) (tok := some (L.getD 4 0)) hL 6 _ q ⟨none, none, none, ps_F_mF _ _ _ (some (L.getD 4 0)), (fun x hx => by cases hx), (fun x hx => by cases hx), (fun x hx => by cases hx), (fun V hV => by cases hV)⟩ ho
          by_cases a1 : q.1 = L.length
          · rw [if_pos a1] at h
            cases h
            exact ⟨_, _, _, _, w, b2, b1, e, ⟨Nat.mod_lt _ (by omega), g1, by omega, (fun x hx => by cases hx; exact g4), hw, h2, h1, by simp, (fun x hx => by cases hx)⟩, hs, fun _ => ⟨_, rfl⟩⟩
          · rw [if_neg a1] at h
            by_cases a2 : q.1 + 1 < L.length ∧ L.length - q.1 - 1 ≤ 32
            · rw [if_pos a2] at h
              cases h
              exact ⟨_, _, _, _, w, b2, b1, e, ⟨Nat.mod_lt _ (by omega), g1, by omega, (fun x hx => by cases hx; exact g4), hw, h2, h1, by show (L.drop (q.1 + 1)).length ≤ 32; rw [List.length_drop]; omega, fun x hx => hL x (List.mem_of_mem_drop hx)⟩, hs, fun _ => ⟨_, rfl⟩⟩
            · rw [if_neg a2] at h; cases h
      · rw [if_neg c5] at h; cases h
  · rw [if_neg c] at h; cases h
/-- a number or none, back -/
def dO (x : Int32) : Option Nat := if x = -1 then none else some x.toNatClampNeg
theorem dO_oI {o : Option Nat} (h : ∀ x, o = some x → x < 2 ^ 31) : dO (oI o) = o := by
  cases o with
  | none => rfl
  | some x =>
    have hx := h x rfl
    rw [dO, if_neg (oI_some hx)]
    show some (nI x).toNatClampNeg = some x
    rw [nI_clamp hx]
/-- a message comes to its end e -/
noncomputable def st_recv (s : st_S) (e : Nat) (r : (Nat → Int32) × List (List Nat) × List Nat) : st_S :=
  if e = 0 then st_c s (cl_recv s.1 (r.1 0).toNatClampNeg (r.1 1).toNatClampNeg (r.1 2).toNatClampNeg (dO (r.1 3)) (dO (r.1 4)) (dO (r.1 5)) r.2.2)
  else if (r.1 0).toNatClampNeg = 0 ∧ ((r.1 1).toNatClampNeg = 1 ∨ (r.1 1).toNatClampNeg = 3) then st_v s (sv_answer s.2.1 (r.1 1).toNatClampNeg (r.1 2).toNatClampNeg ((dO (r.1 3)).getD 0) (dO (r.1 4)) (dO (r.1 5)) (dO (r.1 6)) r.2.1 r.2.2 s.2.2)
  else st_v s (sv_rec s.2.1 (r.1 0).toNatClampNeg (r.1 1).toNatClampNeg (r.1 2).toNatClampNeg)
noncomputable def st_deliver (s : st_S) (k : Int32) : Int32 × st_S := if ln_bad s k then (-1, s) else match s.1.2.2.2.2[k.toNatClampNeg]? with
  | none => (-1, s)
  | some q => match ps_read q.1 with
    | none => (nI (s.1.2.2.2.2.length - 1), st_l s (s.1.2.2.2.2.eraseIdx k.toNatClampNeg))
    | some r => (nI (st_recv (st_l s (s.1.2.2.2.2.eraseIdx k.toNatClampNeg)) q.2 r).1.2.2.2.2.length, st_recv (st_l s (s.1.2.2.2.2.eraseIdx k.toNatClampNeg)) q.2 r)
section OBD
variable {t : ob_S} {s : st_S}
theorem ob_Cs.ms {u : ob_S} (h : ob_Cs t s) (f : ob_Fr ob_mP t u) (hm : ∃ F S P, ob_Ms u F S P) : ob_Cs u s := by
  obtain ⟨h1, h2, h3, h4, -⟩ := h
  exact ⟨h1.fr f (by omega), h2.fr f (fun q a b => by omega), h3.fr f (fun q a => by omega), h4, hm⟩
theorem x_dl117 (h : ob_Cs t s) : B_Ob_deliver_117 0 t = some (nI s.1.2.2.2.2.length, t) := by
  have hl := h.2.1.2.2.1
  rw [B_Ob_deliver_117, ob_b_e (ob_gR_e h.1.1 h.1.2.1), ob_b_e (ob_gI_e hl.1.1 hl.2.2.1), List.length_map]
theorem x_isRequest {ty code id : Nat} {tok w b2 b1 : Option Nat} {S : List (List Nat)} {P : List Nat} (hm : ob_Mm t ty code id tok w b2 b1 S P) : X_Ms_isRequest 96 t = some (if ty = 0 ∧ (code = 1 ∨ code = 3) then 1 else 0, t) := by
  obtain ⟨m1, m2, -⟩ := hm.2
  have ne : ∀ k, k < 1000 → (nI code = nI k ↔ code = k) := fun k hk => nI_eq (by omega) (by omega)
  rw [X_Ms_isRequest, ob_this_e hm.1.1, ob_b_e hm.g.1]
  by_cases c0 : ty = 0
  · rw [if_neg (show ¬ ¬ nI ty = 0 from fun z => z (by rw [c0]; rfl)), ob_b_e hm.g.2.1]
    by_cases c1 : code = 1
    · rw [if_pos (show nI code = (1 : Int32) from (ne 1 (by omega)).mpr c1), if_pos (show ty = 0 ∧ (code = 1 ∨ code = 3) from ⟨c0, Or.inl c1⟩)]; rfl
    · rw [if_neg (show ¬ nI code = (1 : Int32) from fun z => c1 ((ne 1 (by omega)).mp z)), ob_b_e hm.g.2.1]
      by_cases c3 : code = 3
      · rw [if_neg (show ¬ ¬ nI code = (3 : Int32) from fun z => z ((ne 3 (by omega)).mpr c3)), if_pos (show ty = 0 ∧ (code = 1 ∨ code = 3) from ⟨c0, Or.inr c3⟩)]; rfl
      · rw [if_pos (show ¬ nI code = (3 : Int32) from fun z => c3 ((ne 3 (by omega)).mp z)), if_neg (show ¬ (ty = 0 ∧ (code = 1 ∨ code = 3)) from fun z => z.2.elim c1 c3)]; rfl
  · rw [if_pos (nI_ne0 (by omega) (by omega)), if_neg (show ¬ (ty = 0 ∧ (code = 1 ∨ code = 3)) from fun z => c0 z.1)]; rfl
theorem x_Ob_deliver (h : ob_Cs t s) (k : Int32) (hby : ∀ q ∈ s.1.2.2.2.2, (∀ x ∈ q.1, x < 256) ∧ q.2 < 2) : ∃ u, X_Ob_deliver 0 k t = some ((st_deliver s k).1, u) ∧ ob_Cs u (st_deliver s k).2 ∧ ob_Fr cs_P t u := by
  have hl1 := h.2.1.2.2.1.1
  rw [X_Ob_deliver, ob_this_e h.1.1, ob_b_e (ob_gR_e h.1.1 h.1.2.1), ob_b2_e (x_has h k), st_deliver]
  by_cases c : ln_bad s k
  · rw [if_pos c, if_neg (fun z => z rfl), if_pos c]
    exact ⟨t, rfl, h, ob_Fr.rf⟩
  · obtain ⟨j, hj, rfl⟩ := ln_in (ln_len h) c
    have hl := ln_len h
    obtain ⟨r, q, hr, hq, ga, hb, ge⟩ := ln_row h hj
    obtain ⟨hL, hq2⟩ := hby q (List.mem_of_getElem? hq)
    have rw0 : ob_Rw t (4 + 2 * r) (5 + 2 * r) 48 q.1 := ⟨hb, by omega, by omega, hL⟩
    obtain ⟨F, S, P, ms⟩ := h.2.2.2.2
    obtain ⟨u1, e1, f1, mx1, g1⟩ := x_Ms_read ms rw0
    have h1 := h.ms f1 mx1
    obtain ⟨u2, e2, h2, f2⟩ := x_takeOut h1 hj
    have F12 : ob_Fr cs_P t u2 := (f1.mono (fun q z => by omega)).tr (f2.mono (fun q z => by omega))
    rw [if_neg c, if_pos (by decide), ob_b_e (ob_gR_e h.1.1 h.1.2.1), ob_b_e (ob_gR_e hl1.1 hl1.2.2.1), ob_b_e ge, ob_b_e (ob_gR_e h.1.1 h.1.2.2.2.2.1), ob_b_e (ob_gR_e h.1.1 h.1.2.1), ob_b_e (ob_gR_e hl1.1 hl1.2.1), ob_b_e ga, ob_b2_e e1, ob_b_e (ob_gR_e h1.1.1 h1.1.2.1), ob_b_e e2, if_neg c, nI_clamp (by omega), hq]
    dsimp only
    have hlen : (s.1.2.2.2.2.eraseIdx j).length = s.1.2.2.2.2.length - 1 := List.length_eraseIdx_of_lt hj
    cases hp : ps_read q.1 with
    | none =>
      dsimp only
      refine ⟨u2, ?_, h2, F12⟩
      have zero : (if (none : Option ((Nat → Int32) × List (List Nat) × List Nat)).isSome = true then (1 : Int32) else 0) = 0 := rfl
      rw [zero, if_pos rfl, B_Ob_deliver_70, if_pos rfl, B_Ob_deliver_102, if_pos rfl, x_dl117 h2]
      show some (nI (s.1.2.2.2.2.eraseIdx j).length, u2) = _
      rw [hlen]
    | some m =>
      obtain ⟨ty, code, id, tok, w, b2, b1, em, mok, sok, htk⟩ := ps_read_ok hL hp
      have mm1 : ob_Mm u1 ty code id tok w b2 b1 m.2.1 m.2.2 := ⟨(g1 m hp).congr em, mok⟩
      have mm2 := mm1.fr f2 (fun q a b => by omega)
      obtain ⟨k1, k2, k3, k4, k5, k6, k7, k8, k9⟩ := mok
      have n0 : (m.1 0).toNatClampNeg = ty := by rw [em 0 (by omega)]; exact nI_clamp (by omega)
      have n1 : (m.1 1).toNatClampNeg = code := by rw [em 1 (by omega)]; exact nI_clamp (by omega)
      have n2 : (m.1 2).toNatClampNeg = id := by rw [em 2 (by omega)]; exact nI_clamp (by omega)
      have n3 : dO (m.1 3) = tok := by rw [em 3 (by omega)]; exact dO_oI (fun x hx => by have := k4 x hx; omega)
      have n4 : dO (m.1 4) = w := by rw [em 4 (by omega)]; exact dO_oI (fun x hx => by have := k5 x hx; omega)
      have n5 : dO (m.1 5) = b2 := by rw [em 5 (by omega)]; exact dO_oI (fun x hx => by have := (k6 x hx).1; omega)
      have n6 : dO (m.1 6) = b1 := by rw [em 6 (by omega)]; exact dO_oI (fun x hx => by have := (k7 x hx).1; omega)
      have o1 := h2.1
      have one : (if (some m : Option ((Nat → Int32) × List (List Nat) × List Nat)).isSome = true then (1 : Int32) else 0) = 1 := rfl
      dsimp only
      rw [one, if_neg (by decide), st_recv, n0, n1, n2, n3, n4, n5, n6]
      by_cases ce : q.2 = 0
      · rw [if_neg (show ¬ ¬ nI q.2 = 0 from fun z => z (by rw [ce]; rfl)), if_pos ce]
        obtain ⟨u3, e3, c3, f3⟩ := x_Cl_receive h2.2.1 mm2
        have h3 := h2.cl f3 c3
        refine ⟨u3, ?_, h3, F12.tr (f3.mono (fun q z => by omega))⟩
        rw [ob_b_e (ob_gR_e o1.1 o1.2.2.1), ob_b_e (ob_gR_e o1.1 o1.2.2.2.2.1), ob_b_e e3, x_dl117 h3]
      · rw [if_pos (show ¬ nI q.2 = 0 from nI_ne0 (by omega) (by omega)), if_neg ce, B_Ob_deliver_70, if_neg (by decide), ob_b_e (ob_gR_e o1.1 o1.2.2.2.2.1), ob_b2_e (x_isRequest mm2)]
        by_cases cr : ty = 0 ∧ (code = 1 ∨ code = 3)
        · rw [if_pos cr, if_neg (by decide), if_pos cr]
          obtain ⟨tk, rfl⟩ := htk (by omega)
          obtain ⟨u3, e3, v3, f3⟩ := x_Se_answer (now := s.2.2) h2.2.2.1 mm2 cr.2 sok
          have h3 := h2.sv f3 v3
          refine ⟨u3, ?_, h3, F12.tr (f3.mono (fun q z => by omega))⟩
          rw [ob_b_e (ob_gR_e o1.1 o1.2.2.2.1), ob_b_e (ob_gR_e o1.1 o1.2.2.2.2.1), ob_b_e (ob_gI_e o1.1 o1.2.2.2.2.2), ob_b_e (show X_Se_answer 53 96 (st_l s (s.1.2.2.2.2.eraseIdx j)).2.2 u2 = some u3 from e3), x_dl117 h3]
          rfl
        · rw [if_neg cr, if_pos rfl, if_neg cr, B_Ob_deliver_102, if_neg (by decide)]
          obtain ⟨u3, e3, v3, f3⟩ := x_receiveReceipt h2.2.2.1 mm2
          have h3 := h2.sv f3 v3
          refine ⟨u3, ?_, h3, F12.tr (f3.mono (fun q z => by omega))⟩
          rw [ob_b_e (ob_gR_e o1.1 o1.2.2.2.1), ob_b_e (ob_gR_e o1.1 o1.2.2.2.2.1), ob_b_e e3, x_dl117 h3]
end OBD

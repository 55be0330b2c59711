/-! LAYER 2, 25: receipts and the server's ticks -/
section SVR
variable {t : ob_S} {v : sv_S} {ty code id : Nat} {tok w b2 b1 : Option Nat} {S : List (List Nat)} {P : List Nat}
/-- the first watcher that waits for this id -/
def wt_pix (id : Nat) : List sv_W → Nat → Option Nat
  | [], _ => none
  | x :: l, i => if x.2.2.2.2.map (fun q => q.1) = some id then some i else wt_pix id l (i + 1)
/-- watcher k has its receipt -/
noncomputable def sv_recK (v : sv_S) (ty k : Nat) : sv_S := match v.2.2.1[k]? with
  | none => v
  | some x => if ty = 3 then (v.1, v.2.1, (v.2.2.1.set k (x.1, x.2.1, x.2.2.1, x.2.2.2.1, none)).eraseIdx k, v.2.2.2) else if x.2.2.2.1 = 0 then (v.1, v.2.1, v.2.2.1.set k (x.1, x.2.1, x.2.2.1, x.2.2.2.1, none), v.2.2.2) else sv_tell (v.1, v.2.1, v.2.2.1.set k (x.1, x.2.1, x.2.2.1, x.2.2.2.1, none), v.2.2.2) k
noncomputable def sv_rec (v : sv_S) (ty code id : Nat) : sv_S := if code = 0 ∧ (ty = 2 ∨ ty = 3) then (match wt_pix id v.2.2.1 0 with
  | none => v
  | some k => sv_recK v ty k) else v
theorem x_recK {k fu : Nat} {x : sv_W} (h : ob_Sv t v) (hm : ob_Mm t ty code id tok w b2 b1 S P) (hk : k < v.2.2.1.length) (hx : v.2.2.1[k]? = some x) (hf : x.2.2.2.2.map (fun q => q.1) = some id) (hty : ty = 2 ∨ ty = 3) : ∃ u, B_Se_receiveReceipt_26 (fu + 1) 53 96 (nI k) t = some u ∧ ob_Sv u (sv_recK v ty k) ∧ ob_Fr sv_P t u := by
  have h2l := h.2.2.2.2.1.1
  have sh := h.1
  have sc := h.2.1
  obtain ⟨j, x', hj2, hj, hx', wa⟩ := h.2.2.2.2.1.at hk
  have ex : x' = x := Option.some.inj (hx'.symm.trans hx)
  subst ex
  have hid := hm.2.2.2.1
  have ei := x_Pe_isFor id hid wa.2.2.2.2.2.2.1
  rw [if_pos hf] at ei
  obtain ⟨u1, e1, p1, f1⟩ := x_Pe_stop wa.2.2.2.2.2.2.1
  have wa1 := wa.pe f1 p1
  have F1 : ob_Fr (fun q => 73 + 4 * j ≤ q ∧ q < 77 + 4 * j) t u1 := f1.mono (fun q z => by rcases z with z | z | z <;> omega)
  have S1 := h.wat hk hj hj2 F1 wa1
  have mm1 := hm.fr F1 (fun q a b => by omega)
  have hj1 : ob_r u1 72 k = some (73 + 4 * j) := by rw [(F1.2.2.2 72 (by omega)).2]; exact hj
  have hl1 : k < (v.2.2.1.set k (x'.1, x'.2.1, x'.2.2.1, x'.2.2.2.1, none)).length := by rw [List.length_set]; exact hk
  have hch := wa.2.2.2.2.2.2.2.2.2.2
  have pre : B_Se_receiveReceipt_26 (fu + 1) 53 96 (nI k) t = if ¬ nI ty = (3 : Int32) then if nI x'.2.2.2.1 = 0 then some u1 else (X_Se_tell 53 (73 + 4 * j) u1).bind fun t100 => some t100 else (X_Se_endWatch 53 (nI k) u1).bind fun t75 => some t75 := by
    rw [B_Se_receiveReceipt_26, ob_b_e (ob_gI_e sh.1 sc.2.1), if_neg (nI_ge hk (by omega)), ob_b_e (ob_gR_e sh.1 sh.2.2.2.1), ob_b_e (sv_watcher sh (by omega) hj), ob_b_e (ob_gR_e wa.1 wa.2.1), ob_b_e hm.g.2.2.1, ob_b2_e ei, if_neg (by decide), ob_b_e (ob_gR_e sh.1 sh.2.2.2.1), ob_b_e (sv_watcher sh (by omega) hj), ob_b_e (ob_gR_e wa.1 wa.2.1), ob_b_e e1, ob_b_e mm1.g.1, ob_b_e (ob_gR_e S1.1.1 S1.1.2.2.2.1), ob_b_e (sv_watcher S1.1 (by omega) hj1), ob_b_e (ob_gI_e wa1.1 wa1.2.2.2.2.2.1), ob_b_e (ob_gR_e S1.1.1 S1.1.2.2.2.1), ob_b_e (sv_watcher S1.1 (by omega) hj1)]
  rw [pre, sv_recK, hx]
  dsimp only
  by_cases c3 : ty = 3
  · rw [if_neg (show ¬ ¬ nI ty = (3 : Int32) from fun z => z (by rw [c3]; rfl)), if_pos c3]
    obtain ⟨u2, e2, S2, f2⟩ := x_endWatch (k := k) S1 hl1
    exact ⟨u2, by rw [ob_b_e e2], S2, (F1.mono (fun q z => by omega)).tr (f2.mono (fun q z => by omega))⟩
  · rw [if_pos (show ¬ nI ty = (3 : Int32) from fun z => c3 ((nI_eq (b := 3) (by omega) (by omega)).mp z)), if_neg c3]
    by_cases cc : x'.2.2.2.1 = 0
    · rw [if_pos (show nI x'.2.2.2.1 = 0 by rw [cc]; rfl), if_pos cc]
      exact ⟨u1, rfl, S1, F1.mono (fun q z => by omega)⟩
    · rw [if_neg (nI_ne0 (by omega) (by omega)), if_neg cc]
      obtain ⟨u2, e2, S2, f2⟩ := x_Se_tell S1 hl1 hj1 hj2
      exact ⟨u2, by rw [ob_b_e e2], S2, (F1.mono (fun q z => by omega)).tr f2⟩
theorem x_recLoop (h : ob_Sv t v) (hm : ob_Mm t ty code id tok w b2 b1 S P) (hty : ty = 2 ∨ ty = 3) : ∀ (K : List sv_W) (i fu : Nat), v.2.2.1.drop i = K → K.length < fu → i ≤ v.2.2.1.length → ∃ u, B_Se_receiveReceipt_26 fu 53 96 (nI i) t = some u ∧ ob_Sv u (match wt_pix id K i with | none => v | some k => sv_recK v ty k) ∧ ob_Fr sv_P t u := by
  have h2l := h.2.2.2.2.1.1
  have sh := h.1
  have sc := h.2.1
  intro K
  induction K with
  | nil =>
    intro i fu hd hf hi
    obtain ⟨fu, rfl⟩ : ∃ z, fu = z + 1 := ⟨fu - 1, by simp at hf; omega⟩
    have hl : v.2.2.1.length ≤ i := List.drop_eq_nil_iff.mp hd
    refine ⟨t, ?_, h, ob_Fr.rf⟩
    rw [B_Se_receiveReceipt_26, ob_b_e (ob_gI_e sh.1 sc.2.1), if_pos (nI_le hl (by omega))]
  | cons x K ih =>
    intro i fu hd hf hi
    obtain ⟨fu, rfl⟩ : ∃ z, fu = z + 1 := ⟨fu - 1, by simp at hf; omega⟩
    have hlt : i < v.2.2.1.length := by
      rcases Nat.lt_or_ge i v.2.2.1.length with z | z
      · exact z
      · rw [List.drop_eq_nil_iff.mpr z] at hd
        cases hd
    have hq : v.2.2.1[i]? = some x := by
      have e := congrArg (fun l => l[0]?) hd
      simp only [List.getElem?_drop, Nat.add_zero, List.getElem?_cons_zero] at e
      exact e
    have hK : v.2.2.1.drop (i + 1) = K := by
      have e := congrArg List.tail hd
      rw [List.tail_drop] at e
      exact e
    by_cases hc : x.2.2.2.2.map (fun q => q.1) = some id
    · rw [wt_pix, if_pos hc]
      exact x_recK h hm hlt hq hc hty
    · obtain ⟨u, e, s, f⟩ := ih (i + 1) fu hK (by simp at hf; omega) hlt
      rw [wt_pix, if_neg hc]
      refine ⟨u, ?_, s, f⟩
      obtain ⟨j, x', hj2, hj, hx', wa⟩ := h.2.2.2.2.1.at hlt
      have ex : x' = x := Option.some.inj (hx'.symm.trans hq)
      subst ex
      have ei := x_Pe_isFor id hm.2.2.2.1 wa.2.2.2.2.2.2.1
      rw [if_neg hc] at ei
      rw [B_Se_receiveReceipt_26, ob_b_e (ob_gI_e sh.1 sc.2.1), if_neg (nI_ge hlt (by omega)), ob_b_e (ob_gR_e sh.1 sh.2.2.2.1), ob_b_e (sv_watcher sh (by omega) hj), ob_b_e (ob_gR_e wa.1 wa.2.1), ob_b_e hm.g.2.2.1, ob_b2_e ei, if_pos rfl, nI_1]
      exact e
theorem x_receiveReceipt (h : ob_Sv t v) (hm : ob_Mm t ty code id tok w b2 b1 S P) : ∃ u, X_Se_receiveReceipt 53 96 t = some u ∧ ob_Sv u (sv_rec v ty code id) ∧ ob_Fr sv_P t u := by
  have h2l := h.2.2.2.2.1.1
  have sh := h.1
  obtain ⟨m1, m2, m3, m4, m5, m6, m7, m8, m9⟩ := hm.2
  rw [X_Se_receiveReceipt, ob_this_e sh.1, ob_b_e hm.g.2.1, sv_rec]
  by_cases c0 : code = 0
  · rw [if_neg (show ¬ ¬ nI code = 0 from fun z => z (by rw [c0]; rfl)), ob_b_e hm.g.1]
    have go : (ty = 2 ∨ ty = 3) → ∃ u, B_Se_receiveReceipt_24 53 96 t = some u ∧ ob_Sv u (match wt_pix id v.2.2.1 0 with | none => v | some k => sv_recK v ty k) ∧ ob_Fr sv_P t u := fun hty => by
      rw [B_Se_receiveReceipt_24]
      exact x_recLoop h hm hty v.2.2.1 0 ob_fu rfl (by show v.2.2.1.length < 2000; omega) (Nat.zero_le _)
    by_cases c2 : ty = 2
    · rw [if_pos (show nI ty = (2 : Int32) by rw [c2]; rfl), if_pos (show code = 0 ∧ (ty = 2 ∨ ty = 3) from ⟨c0, Or.inl c2⟩)]
      exact go (Or.inl c2)
    · rw [if_neg (show ¬ nI ty = (2 : Int32) from fun z => c2 ((nI_eq (b := 2) (by omega) (by omega)).mp z)), ob_b_e hm.g.1]
      by_cases c3 : ty = 3
      · rw [if_pos (show nI ty = (3 : Int32) by rw [c3]; rfl), if_pos (show code = 0 ∧ (ty = 2 ∨ ty = 3) from ⟨c0, Or.inr c3⟩)]
        exact go (Or.inr c3)
      · rw [if_neg (show ¬ nI ty = (3 : Int32) from fun z => c3 ((nI_eq (b := 3) (by omega) (by omega)).mp z)), if_neg (show ¬ (code = 0 ∧ (ty = 2 ∨ ty = 3)) from fun z => z.2.elim c2 c3)]
        exact ⟨t, rfl, h, ob_Fr.rf⟩
  · rw [if_pos (nI_ne0 (by omega) (by omega)), if_neg (show ¬ (code = 0 ∧ (ty = 2 ∨ ty = 3)) from fun z => c0 z.1)]
    exact ⟨t, rfl, h, ob_Fr.rf⟩
/-- a tick for watcher k: the server, the next watcher's place -/
def sv_passK (v : sv_S) (k : Nat) : sv_S × Nat := match v.2.2.1[k]? with
  | none => (v, k)
  | some x =>
    if (ap_pass x.2.2.2.2).1 = 2 then ((v.1, v.2.1, (v.2.2.1.set k (x.1, x.2.1, x.2.2.1, x.2.2.2.1, (ap_pass x.2.2.2.2).2)).eraseIdx k, v.2.2.2), k)
    else (if (ap_pass x.2.2.2.2).1 = 1 then sv_send (v.1, v.2.1, v.2.2.1.set k (x.1, x.2.1, x.2.2.1, x.2.2.2.1, (ap_pass x.2.2.2.2).2), v.2.2.2) (((ap_pass x.2.2.2.2).2.map (fun q => q.2.2.2.2)).getD []) else (v.1, v.2.1, v.2.2.1.set k (x.1, x.2.1, x.2.2.1, x.2.2.2.1, (ap_pass x.2.2.2.2).2), v.2.2.2), k + 1)
theorem x_passK {k n fu : Nat} (h : ob_Sv t v) (hk : k < v.2.2.1.length) (hn : n < 2) : ∃ u, B_Se_pass_4 (fu + 1) 53 (nI k) (nI n) t = B_Se_pass_4 fu 53 (nI (sv_passK v k).2) (nI (n + 1)) u ∧ ob_Sv u (sv_passK v k).1 ∧ ob_Fr sv_P t u := by
  have h2l := h.2.2.2.2.1.1
  have sh := h.1
  have sc := h.2.1
  obtain ⟨j, x, hj2, hj, hx, wa⟩ := h.2.2.2.2.1.at hk
  obtain ⟨u1, e1, p1, f1⟩ := x_Pe_pass wa.2.2.2.2.2.2.1
  have wa1 := wa.pe f1 p1
  have F1 : ob_Fr (fun q => 73 + 4 * j ≤ q ∧ q < 77 + 4 * j) t u1 := f1.mono (fun q z => by rcases z with z | z | z <;> omega)
  have S1 := h.wat hk hj hj2 F1 wa1
  have hj1 : ob_r u1 72 k = some (73 + 4 * j) := by rw [(F1.2.2.2 72 (by omega)).2]; exact hj
  have hlt := ap_pass_lt x.2.2.2.2
  have hl1 : k < (v.2.2.1.set k (x.1, x.2.1, x.2.2.1, x.2.2.2.1, (ap_pass x.2.2.2.2).2)).length := by rw [List.length_set]; exact hk
  have pre : B_Se_pass_4 (fu + 1) 53 (nI k) (nI n) t = if ¬ nI (ap_pass x.2.2.2.2).1 = (1 : Int32) then B_Se_pass_55 (B_Se_pass_4 fu) 53 (nI k) (nI n) (nI (ap_pass x.2.2.2.2).1) u1 else (ob_gR 9 7 53 u1).bind fun n36 => (ob_gR 9 5 53 u1).bind fun n40 => (ob_aR 16 n40 (nI k) u1).bind fun n44 => (ob_gR 5 0 n44 u1).bind fun n45 => (ob_gR 3 0 n45 u1).bind fun n48 => (X_Li_send n36 n48 (0 : Int32) u1).bind fun t52 => B_Se_pass_55 (B_Se_pass_4 fu) 53 (nI k) (nI n) (nI (ap_pass x.2.2.2.2).1) t52 := by
    rw [B_Se_pass_4, if_neg (show ¬ (2 : Int32) ≤ nI n from nI_ge (b := 2) hn (by omega)), ob_b_e (ob_gI_e sh.1 sc.2.1), if_neg (nI_ge hk (by omega)), ob_b_e (ob_gR_e sh.1 sh.2.2.2.1), ob_b_e (sv_watcher sh (by omega) hj), ob_b_e (ob_gR_e wa.1 wa.2.1), ob_b2_e e1]
  rw [pre, sv_passK, hx]
  dsimp only
  by_cases d1 : (ap_pass x.2.2.2.2).1 = 1
  · obtain ⟨q, hq⟩ := ap_pass1 d1
    rw [if_neg (show ¬ ¬ nI (ap_pass x.2.2.2.2).1 = (1 : Int32) from fun z => z (by rw [d1]; rfl)), if_neg (show ¬ (ap_pass x.2.2.2.2).1 = 2 by omega), if_pos d1]
    rw [hq] at p1 wa1 S1 ⊢
    have q6 := p1.2.2.2.2.2
    dsimp only at q6
    obtain ⟨-, -, -, -, -, qb, qok⟩ := q6
    obtain ⟨u2, e2, l2, f2⟩ := x_send 0 S1.2.2.2.2.2.2.1 qb (Or.inr (by omega)) (Or.inr (by omega)) qok.2.2.2.2.2
    have S2 := S1.li f2 l2
    refine ⟨u2, ?_, S2, (F1.mono (fun q z => by omega)).tr (f2.mono (fun q z => by omega))⟩
    rw [ob_b_e (ob_gR_e S1.1.1 S1.1.2.2.2.2.2.1), ob_b_e (ob_gR_e S1.1.1 S1.1.2.2.2.1), ob_b_e (sv_watcher S1.1 (by omega) hj1), ob_b_e (ob_gR_e wa1.1 wa1.2.1), ob_b_e (ob_gR_e p1.1 p1.2.1), ob_b_e (show X_Li_send 1 (75 + 4 * j) 0 u1 = some u2 from e2), B_Se_pass_55, if_pos (show ¬ nI (ap_pass x.2.2.2.2).1 = (2 : Int32) by rw [d1]; decide), B_Se_pass_71, nI_1, nI_1]
  · rw [if_pos (show ¬ nI (ap_pass x.2.2.2.2).1 = (1 : Int32) from fun z => d1 ((nI_eq (b := 1) (by omega) (by omega)).mp z)), B_Se_pass_55]
    by_cases d2 : (ap_pass x.2.2.2.2).1 = 2
    · rw [if_neg (show ¬ ¬ nI (ap_pass x.2.2.2.2).1 = (2 : Int32) from fun z => z (by rw [d2]; rfl)), if_pos d2]
      obtain ⟨u2, e2, S2, f2⟩ := x_endWatch (k := k) S1 hl1
      exact ⟨u2, by rw [ob_b_e e2, B_Se_pass_71, nI_1], S2, (F1.mono (fun q z => by omega)).tr (f2.mono (fun q z => by omega))⟩
    · rw [if_pos (show ¬ nI (ap_pass x.2.2.2.2).1 = (2 : Int32) from fun z => d2 ((nI_eq (b := 2) (by omega) (by omega)).mp z)), if_neg d2, if_neg d1]
      exact ⟨u1, by rw [B_Se_pass_71, nI_1, nI_1], S1, F1.mono (fun q z => by omega)⟩
theorem x_passStop {k n fu : Nat} (h : ob_Sv t v) (hk : v.2.2.1.length ≤ k) (hk2 : k < 100) (hn : n < 2) : B_Se_pass_4 (fu + 1) 53 (nI k) (nI n) t = some t := by
  rw [B_Se_pass_4, if_neg (show ¬ (2 : Int32) ≤ nI n from nI_ge (b := 2) hn (by omega)), ob_b_e (ob_gI_e h.1.1 h.2.1.2.1), if_pos (nI_le hk (by omega))]
theorem sv_passK_no {k : Nat} (hk : v.2.2.1.length ≤ k) : sv_passK v k = (v, k) := by
  rw [sv_passK, List.getElem?_eq_none hk]
theorem sv_passK_k (k : Nat) : (sv_passK v k).2 ≤ k + 1 := by
  unfold sv_passK
  cases v.2.2.1[k]? with
  | none => exact Nat.le_succ _
  | some x =>
    dsimp only
    split
    · exact Nat.le_succ _
    · exact Nat.le_refl _
def sv_pass (v : sv_S) : sv_S := (sv_passK (sv_passK v 0).1 (sv_passK v 0).2).1
theorem x_Se_pass (h : ob_Sv t v) : ∃ u, X_Se_pass 53 t = some u ∧ ob_Sv u (sv_pass v) ∧ ob_Fr sv_P t u := by
  have h2l := h.2.2.2.2.1.1
  rw [X_Se_pass, ob_this_e h.1.1, sv_pass]
  show ∃ u, B_Se_pass_4 (1997 + 1 + 1 + 1) 53 (nI 0) (nI 0) t = some u ∧ _
  by_cases c0 : v.2.2.1.length = 0
  · rw [sv_passK_no (v := v) (by omega)]
    rw [sv_passK_no (by show v.2.2.1.length ≤ 0; omega)]
    exact ⟨t, x_passStop h (by omega) (by omega) (by omega), h, ob_Fr.rf⟩
  · obtain ⟨u1, e1, S1, f1⟩ := x_passK (fu := 1997 + 1 + 1) (n := 0) h (k := 0) (by omega) (by omega)
    have hk1 := sv_passK_k (v := v) 0
    rw [e1]
    by_cases c1 : (sv_passK v 0).1.2.2.1.length ≤ (sv_passK v 0).2
    · rw [sv_passK_no c1]
      exact ⟨u1, x_passStop S1 c1 (by omega) (by omega), S1, f1⟩
    · obtain ⟨u2, e2, S2, f2⟩ := x_passK (fu := 1997 + 1) (n := 1) S1 (k := (sv_passK v 0).2) (by omega) (by omega)
      refine ⟨u2, ?_, S2, f1.tr f2⟩
      rw [e2, B_Se_pass_4, if_pos (by decide)]
/-- the lengths of the parts -/
theorem x_lengthOfParts (h : ob_Sv t v) : X_Se_lengthOfParts 53 t = some (nI ((v.2.1 0).length + (v.2.1 1).length + (v.2.1 2).length + (v.2.1 3).length), t) := by
  have sh := h.1
  have st : ∀ (r s fu : Nat), r < 4 → B_Se_lengthOfParts_4 (fu + 1) 53 (nI s) (nI r) t = B_Se_lengthOfParts_4 fu 53 (nI (s + (v.2.1 r).length)) (nI (r + 1)) t := by
    intro r s fu hr
    have pb := (h.2.2.2.1 r hr).1
    rw [B_Se_lengthOfParts_4, if_neg (show ¬ (4 : Int32) ≤ nI r from nI_ge (b := 4) hr (by omega)), ob_b_e (ob_gR_e sh.1 sh.2.2.1), ob_b_e (sv_cont sh hr).2, ob_b_e (ob_gI_e pb.1 (show ob_i t (58 + 4 * r) 1 = nI (v.2.1 r).length by rw [pb.2.2.2.2.2.2.1, nb_len])), nI_add, nI_1]
  rw [X_Se_lengthOfParts, ob_this_e sh.1]
  show B_Se_lengthOfParts_4 (1995 + 1 + 1 + 1 + 1 + 1) 53 (nI 0) (nI 0) t = _
  rw [st 0 _ _ (by omega), st 1 _ _ (by omega), st 2 _ _ (by omega), st 3 _ _ (by omega), B_Se_lengthOfParts_4, if_pos (by decide), Nat.zero_add]
end SVR

/-! LAYER 2, 16: the client -/
/-- slots' numbers, bodies, what waits; the next id; the line -/
abbrev cl_S : Type := (Nat → Nat → Nat) × (Nat → List Nat) × (Nat → Option ap_P) × Nat × List (List Nat × Nat)
def ob_Ci (t : ob_S) (c : cl_S) : Prop := (∀ s, s < 2 → ob_Sl t (38 + 6 * s) (c.1 s) (c.2.1 s) (c.2.2.1 s) ∧ sl_ok (c.1 s) (c.2.1 s)) ∧ ob_Cl t c.2.2.2.1 ∧ ob_Li t (ll c.2.2.2.2) ∧ ∃ L last, ob_Wr t 50 51 52 L last
abbrev cl_P : Nat → Prop := fun q => 1 ≤ q ∧ q < 53
def cl_set (c : cl_S) (s : Nat) (F : Nat → Nat) (B : List Nat) (o : Option ap_P) : cl_S := (va_up c.1 s F, va_up c.2.1 s B, va_up c.2.2.1 s o, c.2.2.2)
noncomputable def cl_send (c : cl_S) (row : List Nat) (e : Nat) : cl_S := (c.1, c.2.1, c.2.2.1, c.2.2.2.1, af_send c.2.2.2.2 row e)
noncomputable def cl_ask (c : cl_S) (s : Nat) : cl_S := (va_up c.1 s (va_up (c.1 s) 2 1), c.2.1, va_up c.2.2.1 s (some (c.2.2.2.1, 4, 4, 0, af_ask (c.1 s) (c.2.1 s) c.2.2.2.1)), (c.2.2.2.1 + 1) % 65536, af_send c.2.2.2.2 (af_ask (c.1 s) (c.2.1 s) c.2.2.2.1) 1)
theorem ob_Ci.fr {P : Nat → Prop} {t u : ob_S} {c : cl_S} (h : ob_Ci t c) (f : ob_Fr P t u) (hP : ∀ q, 1 ≤ q → q < 53 → ¬ P q) : ob_Ci u c := by
  obtain ⟨h1, h2, h3, L, last, h4⟩ := h
  exact ⟨fun s hs => ⟨(h1 s hs).1.fr f (fun q a b => hP q (by omega) (by omega)), (h1 s hs).2⟩, h2.fr f (hP _ (by omega) (by omega)) (hP _ (by omega) (by omega)), h3.fr f (fun q a b => hP q a (by omega)), L, last, h4.fr f (hP _ (by omega) (by omega)) (hP _ (by omega) (by omega)) (hP _ (by omega) (by omega))⟩
theorem ob_Cl.slot {t : ob_S} {cn s : Nat} (h : ob_Cl t cn) (hs : s < 2) : ob_aR 15 37 (nI s) t = some (38 + 6 * s) := by
  obtain ⟨g1, g2, g3, g4, g5, g6, g7, g8, g9, g10⟩ := h
  refine ob_aR_e g6 (by omega) (by omega) ?_
  rcases (show s = 0 ∨ s = 1 by omega) with rfl | rfl
  · exact g8
  · exact g9
theorem ob_Ci.slot {t u : ob_S} {c : cl_S} {s : Nat} {F : Nat → Nat} {B : List Nat} {o : Option ap_P} (h : ob_Ci t c) (hs : s < 2) (f : ob_Fr (sl_P (38 + 6 * s)) t u) (h' : ob_Sl u (38 + 6 * s) F B o) (ok : sl_ok F B) : ob_Ci u (cl_set c s F B o) := by
  obtain ⟨h1, h2, h3, L, last, h4⟩ := h
  refine ⟨fun r hr => ?_, h2.fr f (by omega) (by omega), h3.fr f (fun q a b => by omega), L, last, h4.fr f (by omega) (by omega) (by omega)⟩
  by_cases e : r = s
  · subst e
    show ob_Sl u (38 + 6 * r) (va_up c.1 r F r) (va_up c.2.1 r B r) (va_up c.2.2.1 r o r) ∧ sl_ok (va_up c.1 r F r) (va_up c.2.1 r B r)
    rw [va_up_self, va_up_self, va_up_self]
    exact ⟨h', ok⟩
  · show ob_Sl u (38 + 6 * r) (va_up c.1 s F r) (va_up c.2.1 s B r) (va_up c.2.2.1 s o r) ∧ sl_ok (va_up c.1 s F r) (va_up c.2.1 s B r)
    rw [va_up_ne _ _ e, va_up_ne _ _ e, va_up_ne _ _ e]
    exact ⟨(h1 r hr).1.fr f (fun q a b => by omega), (h1 r hr).2⟩
theorem x_Ci_ask {t : ob_S} {c : cl_S} {s : Nat} (h : ob_Ci t c) (hs : s < 2) : ∃ u, X_Cl_ask 36 (38 + 6 * s) t = some u ∧ ob_Ci u (cl_ask c s) ∧ ob_Fr cl_P t u := by
  obtain ⟨h1, h2, h3, L, last, h4⟩ := h
  have hn : 38 + 6 * s = 38 ∨ 38 + 6 * s = 44 := by omega
  obtain ⟨u, e, ⟨a1, a2, a3, -, a5⟩, w, f⟩ := x_Cl_ask ⟨(h1 s hs).1, h2, h3, hn, (h1 s hs).2⟩ h4
  refine ⟨u, e, ⟨fun r hr => ?_, a2, a3, w⟩, f.mono (fun q z => by omega)⟩
  by_cases er : r = s
  · subst er
    show ob_Sl u (38 + 6 * r) (va_up c.1 r _ r) (c.2.1 r) (va_up c.2.2.1 r _ r) ∧ sl_ok (va_up c.1 r _ r) (c.2.1 r)
    rw [va_up_self, va_up_self]
    exact ⟨a1, a5⟩
  · show ob_Sl u (38 + 6 * r) (va_up c.1 s _ r) (c.2.1 r) (va_up c.2.2.1 s _ r) ∧ sl_ok (va_up c.1 s _ r) (c.2.1 r)
    rw [va_up_ne _ _ er, va_up_ne _ _ er]
    exact ⟨(h1 r hr).1.fr f (fun q a b => by omega), (h1 r hr).2⟩
section CLR
variable {t : ob_S} {c : cl_S} {ty code id : Nat} {tok w b2 b1 : Option Nat} {S : List (List Nat)} {P : List Nat}
/-- slot s takes the answer -/
noncomputable def cl_ansS (c : cl_S) (s code : Nat) (w b2 : Option Nat) (P : List Nat) : cl_S :=
  if (sl_ans (c.1 s) (c.2.1 s) code w b2 P).2.2 = 1 then cl_ask (cl_set c s (sl_ans (c.1 s) (c.2.1 s) code w b2 P).1 (sl_ans (c.1 s) (c.2.1 s) code w b2 P).2.1 none) s else cl_set c s (sl_ans (c.1 s) (c.2.1 s) code w b2 P).1 (sl_ans (c.1 s) (c.2.1 s) code w b2 P).2.1 none
noncomputable def cl_recvA (c : cl_S) (code id : Nat) (tok w b2 : Option Nat) (P : List Nat) : cl_S :=
  if sl_asked (c.1 0) (c.2.2.1 0) id tok then cl_ansS c 0 code w b2 P else if sl_asked (c.1 1) (c.2.2.1 1) id tok then cl_ansS c 1 code w b2 P else c
theorem sl_ans01 (F : Nat → Nat) (B : List Nat) (code : Nat) (w b2 : Option Nat) (P : List Nat) : (sl_ans F B code w b2 P).2.2 = 0 ∨ (sl_ans F B code w b2 P).2.2 = 1 := by
  unfold sl_ans
  split
  · show b2.getD 0 / 8 % 2 = 0 ∨ b2.getD 0 / 8 % 2 = 1
    omega
  · split
    · exact Or.inr rfl
    · split
      · exact Or.inl rfl
      · exact Or.inl rfl
theorem x_recvStep {s fu : Nat} (h : ob_Ci t c) (hm : ob_Mm t ty code id tok w b2 b1 S P) (hs : s < 2) (ha : sl_asked (c.1 s) (c.2.2.1 s) id tok) : ∃ u, B_Cl_receiveAnswer_2 (fu + 1) 36 96 (nI s) t = some u ∧ ob_Ci u (cl_ansS c s code w b2 P) ∧ ob_Fr cl_P t u := by
  have h2 := h.2.1
  obtain ⟨sl, ok⟩ := h.1 s hs
  obtain ⟨u1, e1, s1, f1⟩ := x_takeAnswer sl ok hm (by omega)
  have c1 := h.slot hs f1 s1 (sl_ans_ok ok hm.2)
  have ea := x_isAskedFor sl ok hm
  rw [if_pos ha] at ea
  have pre : B_Cl_receiveAnswer_2 (fu + 1) 36 96 (nI s) t = if nI (sl_ans (c.1 s) (c.2.1 s) code w b2 P).2.2 = 0 then some u1 else (ob_gR 7 0 36 u1).bind fun n35 => (ob_aR 15 n35 (nI s) u1).bind fun n39 => (X_Cl_ask 36 n39 u1).bind fun t40 => some t40 := by
    rw [B_Cl_receiveAnswer_2, if_neg (show ¬ (2 : Int32) ≤ nI s from nI_ge (b := 2) hs (by omega)), ob_b_e (ob_gR_e h2.1 h2.2.1), ob_b_e (h2.slot hs), ob_b2_e ea, if_neg (by decide), ob_b_e (ob_gR_e h2.1 h2.2.1), ob_b_e (h2.slot hs), ob_b2_e e1]
  rw [pre]
  rcases sl_ans01 (c.1 s) (c.2.1 s) code w b2 P with z | z
  · refine ⟨u1, by rw [z, if_pos (by decide)], ?_, f1.mono (fun q y => by omega)⟩
    rw [cl_ansS, if_neg (by omega)]
    exact c1
  · obtain ⟨u2, e2, c2, f2⟩ := x_Ci_ask c1 hs
    have q2 := c1.2.1
    refine ⟨u2, ?_, ?_, (f1.mono (fun q y => by omega)).tr f2⟩
    · rw [z, if_neg (by decide), ob_b_e (ob_gR_e q2.1 q2.2.1), ob_b_e (q2.slot hs), ob_b_e e2]
    · rw [cl_ansS, if_pos z]
      exact c2
theorem x_recvSkip {s fu : Nat} (h : ob_Ci t c) (hm : ob_Mm t ty code id tok w b2 b1 S P) (hs : s < 2) (ha : ¬ sl_asked (c.1 s) (c.2.2.1 s) id tok) : B_Cl_receiveAnswer_2 (fu + 1) 36 96 (nI s) t = B_Cl_receiveAnswer_2 fu 36 96 (nI (s + 1)) t := by
  have h2 := h.2.1
  obtain ⟨sl, ok⟩ := h.1 s hs
  have ea := x_isAskedFor sl ok hm
  rw [if_neg ha] at ea
  rw [B_Cl_receiveAnswer_2, if_neg (show ¬ (2 : Int32) ≤ nI s from nI_ge (b := 2) hs (by omega)), ob_b_e (ob_gR_e h2.1 h2.2.1), ob_b_e (h2.slot hs), ob_b2_e ea, if_pos rfl, nI_1]
theorem x_receiveAnswer (h : ob_Ci t c) (hm : ob_Mm t ty code id tok w b2 b1 S P) : ∃ u, X_Cl_receiveAnswer 36 96 t = some u ∧ ob_Ci u (cl_recvA c code id tok w b2 P) ∧ ob_Fr cl_P t u := by
  rw [X_Cl_receiveAnswer, ob_this_e h.2.1.1]
  show ∃ u, B_Cl_receiveAnswer_2 (1997 + 1 + 1 + 1) 36 96 (nI 0) t = some u ∧ _
  by_cases c0 : sl_asked (c.1 0) (c.2.2.1 0) id tok
  · rw [cl_recvA, if_pos c0]
    exact x_recvStep h hm (by omega) c0
  · rw [x_recvSkip h hm (by omega) c0, cl_recvA, if_neg c0]
    by_cases c1 : sl_asked (c.1 1) (c.2.2.1 1) id tok
    · rw [if_pos c1]
      exact x_recvStep h hm (by omega) c1
    · rw [if_neg c1, x_recvSkip h hm (by omega) c1]
      refine ⟨t, ?_, h, ob_Fr.rf⟩
      rw [B_Cl_receiveAnswer_2, if_pos (by decide)]
/-- news, to slot o (none: to nobody) -/
noncomputable def cl_newsS (c : cl_S) (s : Nat) (w b2 : Option Nat) (P : List Nat) : cl_S :=
  if sl_news (c.1 s) w b2 then (if b2.getD 0 / 8 % 2 = 1 then cl_ask (cl_set c s (sl_nw (c.1 s) w b2) P none) s else cl_set c s (sl_nw (c.1 s) w b2) P none) else c
noncomputable def cl_recvN (c : cl_S) (id : Nat) (tok w b2 : Option Nat) (P : List Nat) : cl_S :=
  if sl_watched (c.1 1) tok then cl_newsS (cl_send c (aw_empty 2 id) 1) 1 w b2 P else if sl_watched (c.1 0) tok then cl_newsS (cl_send c (aw_empty 2 id) 1) 0 w b2 P else cl_send c (aw_empty 3 id) 1
theorem x_bare (h : ob_Ci t c) (ty2 : Nat) (hty : ty2 < 4) (hid : id < 65536) : ∃ u v, X_Wr_beginEmpty 50 (nI ty2) (nI id) t = some u ∧ ob_Cl u c.2.2.2.1 ∧ ob_gR 4 0 50 u = some 51 ∧ X_Li_send 1 51 1 u = some v ∧ ob_Ci v (cl_send c (aw_empty ty2 id) 1) ∧ ob_Fr cl_P t v := by
  obtain ⟨h1, h2, h3, L, last, h4⟩ := h
  obtain ⟨u1, e1, w1, f1⟩ := x_Wr_beginEmpty ty2 id h4 hty hid
  have l1 := h3.fr f1 (fun q a b z => by have := ob_3lt z; omega)
  obtain ⟨u2, e2, l2, f2⟩ := x_send 1 l1 w1.2.2.1 (Or.inr (by omega)) (Or.inr (by omega)) (by simp [aw_empty])
  have cl1 := h2.fr f1 (fun z => by have := ob_3lt z; omega) (fun z => by have := ob_3lt z; omega)
  refine ⟨u1, u2, e1, cl1, ob_gR_e w1.1 w1.2.1, e2, ⟨fun s hs => ⟨((h1 s hs).1.fr f1 (fun q a b z => by have := ob_3lt z; omega)).fr f2 (fun q a b => by omega), (h1 s hs).2⟩, cl1.fr f2 (by omega) (by omega), l2, _, _, w1.fr f2 (by omega) (by omega) (by omega)⟩, (f1.mono (fun q z => by have := ob_3lt z; omega)).tr (f2.mono (fun q z => by omega))⟩
theorem x_news48 {s : Nat} (h : ob_Ci t c) (hm : ob_Mm t ty code id tok w b2 b1 S P) (hs : s < 2) : ∃ u, B_Cl_receiveNews_48 36 96 (some (38 + 6 * s)) 2 50 t = some u ∧ ob_Ci u (cl_newsS (cl_send c (aw_empty 2 id) 1) s w b2 P) ∧ ob_Fr cl_P t u := by
  have hid := hm.2.2.2.1
  obtain ⟨u1, u2, e1, k1, g1, e2, c2, f2⟩ := x_bare h 2 (by omega) hid
  have mm2 := hm.fr f2 (fun q a b => by omega)
  obtain ⟨sl, ok⟩ := c2.1 s hs
  have en := x_isNews sl ok mm2
  have pre : B_Cl_receiveNews_48 36 96 (some (38 + 6 * s)) 2 50 t = ob_b2 (X_Sl_isNews (38 + 6 * s) 96 u2) fun x76 t76 => if x76 = 0 then some t76 else ob_b2 (X_Sl_takeNews (38 + 6 * s) 96 t76) fun x84 t84 => if x84 = 0 then some t84 else (X_Cl_ask 36 (38 + 6 * s) t84).bind fun t92 => some t92 := by
    rw [B_Cl_receiveNews_48]
    try dsimp only
    rw [ob_b_e hm.g.2.2.1, ob_b_e (show X_Wr_beginEmpty 50 2 (nI id) t = some u1 from e1), ob_b_e (ob_gR_e k1.1 k1.2.2.1), ob_b_e (ob_gR_e k1.1 k1.2.2.2.1), ob_b_e g1, ob_b_e e2]
  rw [pre, ob_b2_e en, cl_newsS]
  by_cases cn : sl_news (c.1 s) w b2
  · have cn' : sl_news ((cl_send c (aw_empty 2 id) 1).1 s) w b2 := cn
    rw [if_pos cn', if_neg (by decide), if_pos cn']
    obtain ⟨u3, e3, s3, f3⟩ := x_takeNews sl ok (by omega) mm2 cn.1 cn.2.2.2.1
    have c3 := c2.slot hs f3 s3 (sl_nw_ok ok hm.2 cn.1)
    rw [ob_b2_e e3]
    by_cases cm : b2.getD 0 / 8 % 2 = 1
    · obtain ⟨u4, e4, c4, f4⟩ := x_Ci_ask c3 hs
      rw [cm, if_neg (by decide), ob_b_e e4, if_pos rfl]
      exact ⟨u4, rfl, c4, (f2.tr (f3.mono (fun q y => by omega))).tr f4⟩
    · rw [show b2.getD 0 / 8 % 2 = 0 by omega, if_pos (by decide), if_neg (by omega)]
      exact ⟨u3, rfl, c3, f2.tr (f3.mono (fun q y => by omega))⟩
  · have cn' : ¬ sl_news ((cl_send c (aw_empty 2 id) 1).1 s) w b2 := cn
    rw [if_neg cn', if_pos rfl, if_neg cn']
    exact ⟨u2, rfl, c2, f2⟩
theorem x_news48n (h : ob_Ci t c) (hm : ob_Mm t ty code id tok w b2 b1 S P) : ∃ u, B_Cl_receiveNews_48 36 96 none 3 50 t = some u ∧ ob_Ci u (cl_send c (aw_empty 3 id) 1) ∧ ob_Fr cl_P t u := by
  have hid := hm.2.2.2.1
  obtain ⟨u1, u2, e1, k1, g1, e2, c2, f2⟩ := x_bare h 3 (by omega) hid
  refine ⟨u2, ?_, c2, f2⟩
  rw [B_Cl_receiveNews_48]
  try dsimp only
  rw [ob_b_e hm.g.2.2.1, ob_b_e (show X_Wr_beginEmpty 50 3 (nI id) t = some u1 from e1), ob_b_e (ob_gR_e k1.1 k1.2.2.1), ob_b_e (ob_gR_e k1.1 k1.2.2.2.1), ob_b_e g1, ob_b_e e2]
theorem x_receiveNews (h : ob_Ci t c) (hm : ob_Mm t ty code id tok w b2 b1 S P) : ∃ u, X_Cl_receiveNews 36 96 t = some u ∧ ob_Ci u (cl_recvN c id tok w b2 P) ∧ ob_Fr cl_P t u := by
  have h2 := h.2.1
  obtain ⟨sl0, ok0⟩ := h.1 0 (by omega)
  obtain ⟨sl1, ok1⟩ := h.1 1 (by omega)
  have e0 := x_isWatchedFor sl0 ok0 hm
  have e1 := x_isWatchedFor sl1 ok1 hm
  have s0 : ob_aR 15 37 (0 : Int32) t = some 38 := h2.slot (s := 0) (by omega)
  have s1 : ob_aR 15 37 (1 : Int32) t = some 44 := h2.slot (s := 1) (by omega)
  have gw : ob_gR 7 2 36 t = some 50 := ob_gR_e h2.1 h2.2.2.2.1
  have gs : ob_gR 7 0 36 t = some 37 := ob_gR_e h2.1 h2.2.1
  rw [X_Cl_receiveNews, ob_this_e h2.1]
  show ∃ u, B_Cl_receiveNews_4 (1997 + 1 + 1 + 1) 36 96 none 0 t = some u ∧ _
  rw [B_Cl_receiveNews_4, if_neg (by decide), ob_b_e gs, ob_b_e s0, ob_b2_e (show X_Sl_isWatchedFor 38 96 t = _ from e0)]
  by_cases w0 : sl_watched (c.1 0) tok
  · rw [if_pos w0, if_neg (by decide), ob_b_e gs, ob_b_e s0, B_Cl_receiveNews_29]
    try dsimp only
    rw [B_Cl_receiveNews_4, if_neg (by decide), ob_b_e gs, show (0 : Int32) + 1 = 1 from rfl, ob_b_e s1, ob_b2_e (show X_Sl_isWatchedFor 44 96 t = _ from e1)]
    by_cases w1 : sl_watched (c.1 1) tok
    · rw [if_pos w1, if_neg (by decide), ob_b_e gs, ob_b_e s1, B_Cl_receiveNews_29]
      try dsimp only
      rw [B_Cl_receiveNews_4, if_pos (by decide), ob_b_e gw, cl_recvN, if_pos w1]
      exact x_news48 (s := 1) h hm (by omega)
    · rw [if_neg w1, if_pos rfl, B_Cl_receiveNews_29]
      try dsimp only
      rw [B_Cl_receiveNews_4, if_pos (by decide), ob_b_e gw, cl_recvN, if_neg w1, if_pos w0]
      exact x_news48 (s := 0) h hm (by omega)
  · rw [if_neg w0, if_pos rfl, B_Cl_receiveNews_29]
    try dsimp only
    rw [B_Cl_receiveNews_4, if_neg (by decide), ob_b_e gs, show (0 : Int32) + 1 = 1 from rfl, ob_b_e s1, ob_b2_e (show X_Sl_isWatchedFor 44 96 t = _ from e1)]
    by_cases w1 : sl_watched (c.1 1) tok
    · rw [if_pos w1, if_neg (by decide), ob_b_e gs, ob_b_e s1, B_Cl_receiveNews_29]
      try dsimp only
      rw [B_Cl_receiveNews_4, if_pos (by decide), ob_b_e gw, cl_recvN, if_pos w1]
      exact x_news48 (s := 1) h hm (by omega)
    · rw [if_neg w1, if_pos rfl, B_Cl_receiveNews_29]
      try dsimp only
      rw [B_Cl_receiveNews_4, if_pos (by decide), ob_b_e gw, cl_recvN, if_neg w1, if_neg w0]
      exact x_news48n h hm
noncomputable def cl_recv (c : cl_S) (ty code id : Nat) (tok w b2 : Option Nat) (P : List Nat) : cl_S := if ty = 2 then cl_recvA c code id tok w b2 P else if ty = 0 ∧ code = 69 then cl_recvN c id tok w b2 P else c
theorem x_Cl_receive (h : ob_Ci t c) (hm : ob_Mm t ty code id tok w b2 b1 S P) : ∃ u, X_Cl_receive 36 96 t = some u ∧ ob_Ci u (cl_recv c ty code id tok w b2 P) ∧ ob_Fr cl_P t u := by
  have h1 := h.2.1.1
  have hty := hm.2.1
  have hco := hm.2.2.1
  rw [X_Cl_receive, ob_this_e h1, ob_b_e hm.g.1]
  by_cases c2 : ty = 2
  · obtain ⟨u, e, ci, f⟩ := x_receiveAnswer h hm
    rw [if_neg (show ¬ ¬ nI ty = (2 : Int32) from fun z => z (by rw [c2]; rfl)), ob_b_e e, cl_recv, if_pos c2]
    exact ⟨u, rfl, ci, f⟩
  · rw [if_pos (show ¬ nI ty = (2 : Int32) from fun z => c2 ((nI_eq (b := 2) (by omega) (by omega)).mp z)), ob_b_e hm.g.1, cl_recv, if_neg c2]
    by_cases c0 : ty = 0
    · rw [if_neg (show ¬ ¬ nI ty = 0 from fun z => z (by rw [c0]; rfl)), ob_b_e hm.g.2.1]
      by_cases c69 : code = 69
      · obtain ⟨u, e, ci, f⟩ := x_receiveNews h hm
        rw [if_neg (show ¬ ¬ nI code = (69 : Int32) from fun z => z (by rw [c69]; rfl)), ob_b_e e, if_pos ⟨c0, c69⟩]
        exact ⟨u, rfl, ci, f⟩
      · rw [if_pos (show ¬ nI code = (69 : Int32) from fun z => c69 ((nI_eq (b := 69) (by omega) (by omega)).mp z)), if_neg (fun z => c69 z.2)]
        exact ⟨t, rfl, h, ob_Fr.rf⟩
    · rw [if_pos (nI_ne0 (by omega) (by omega)), if_neg (fun z => c0 z.1)]
      exact ⟨t, rfl, h, ob_Fr.rf⟩
end CLR

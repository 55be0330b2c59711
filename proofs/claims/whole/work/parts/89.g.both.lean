/-! LAYER 2, 55: the program and the reference side by side -/
/-- what holds of the client's numbers: i uses at most; a free slot has nothing under way -/
def cl_iv (c : cl_S) (i : Nat) : Prop := cl_fr c ∧ ∀ k, c.1 k 9 ≤ i
section IV
variable {c : cl_S} {i k : Nat}
theorem cl_iv.mono {j : Nat} (h : cl_iv c i) (hj : i ≤ j) : cl_iv c j := ⟨h.1, fun k => Nat.le_trans (h.2 k) hj⟩
theorem cl_iv.set {F : Nat → Nat} {B : List Nat} {o : Option ap_P} (h : cl_iv c i) (h2 : F 2 = 0 → o = none) (h9 : F 9 ≤ i) : cl_iv (cl_set c k F B o) i := by
  refine ⟨fun j hj => ?_, fun j => ?_⟩
  · by_cases e : j = k
    · subst e
      simp only [cl_set, va_up_self] at hj ⊢
      exact h2 hj
    · simp only [cl_set, va_up_ne _ _ e] at hj ⊢
      exact h.1 j hj
  · by_cases e : j = k
    · subst e
      simp only [cl_set, va_up_self]
      exact h9
    · simp only [cl_set, va_up_ne _ _ e]
      exact h.2 j
theorem cl_iv.ask (h : cl_iv c i) : cl_iv (cl_ask c k) i := by
  refine ⟨fun j hj => ?_, fun j => ?_⟩
  · by_cases e : j = k
    · subst e
      simp only [cl_ask, va_up_self] at hj
      omega
    · simp only [cl_ask, va_up_ne _ _ e] at hj ⊢
      exact h.1 j hj
  · by_cases e : j = k
    · subst e
      simp only [cl_ask, va_up_self]
      rw [va_up_ne _ _ (by omega)]
      exact h.2 j
    · simp only [cl_ask, va_up_ne _ _ e]
      exact h.2 j
theorem cl_iv.send {row : List Nat} {e : Nat} (h : cl_iv c i) : cl_iv (cl_send c row e) i := h
theorem sl_on_9 (F : Nat → Nat) (b : Nat) : sl_on F b 9 = F 9 := by
  unfold sl_on
  split
  · rw [va_up_ne _ _ (by omega)]
  · rw [va_up_ne _ _ (by omega)]
theorem sl_blk_9 (F : Nat → Nat) (w : Option Nat) : sl_blk F w 9 = F 9 := by
  unfold sl_blk
  split
  · rw [va_up_ne _ _ (by omega), va_up_ne _ _ (by omega)]
  · rfl
theorem sl_ans_9 (F : Nat → Nat) (B : List Nat) (code : Nat) (w b2 : Option Nat) (P : List Nat) : (sl_ans F B code w b2 P).1 9 = F 9 := by
  unfold sl_ans
  split
  · show sl_on (sl_blk F w) (b2.getD 0) 9 = F 9
    rw [sl_on_9, sl_blk_9]
  · split
    · show va_up F 6 (F 6 + 1) 9 = F 9
      rw [va_up_ne _ _ (by omega)]
    · split
      · show va_up F 2 2 9 = F 9
        rw [va_up_ne _ _ (by omega)]
      · show va_up (va_up F 2 4) 13 code 9 = F 9
        rw [va_up_ne _ _ (by omega), va_up_ne _ _ (by omega)]
theorem cl_iv.ans {code : Nat} {w b2 : Option Nat} {P : List Nat} (h : cl_iv c i) : cl_iv (cl_ansS c k code w b2 P) i := by
  have h1 : cl_iv (cl_set c k (sl_ans (c.1 k) (c.2.1 k) code w b2 P).1 (sl_ans (c.1 k) (c.2.1 k) code w b2 P).2.1 none) i := h.set (fun _ => rfl) (by rw [sl_ans_9]; exact h.2 k)
  unfold cl_ansS
  split
  · exact h1.ask
  · exact h1
theorem cl_iv.news {w b2 : Option Nat} {P : List Nat} (h : cl_iv c i) : cl_iv (cl_newsS c k w b2 P) i := by
  have h1 : cl_iv (cl_set c k (sl_nw (c.1 k) w b2) P none) i := h.set (fun _ => rfl) (by
    rw [sl_nw, sl_on_9, va_up_ne _ _ (by omega), va_up_ne _ _ (by omega)]
    exact h.2 k)
  unfold cl_newsS
  split
  · split
    · exact h1.ask
    · exact h1
  · exact h
theorem cl_iv.recv {ty code id : Nat} {tok w b2 : Option Nat} {P : List Nat} (h : cl_iv c i) : cl_iv (cl_recv c ty code id tok w b2 P) i := by
  unfold cl_recv
  split
  · unfold cl_recvA
    split
    · exact h.ans
    · split
      · exact h.ans
      · exact h
  · split
    · unfold cl_recvN
      split
      · exact cl_iv.news (cl_iv.send h)
      · split
        · exact cl_iv.news (cl_iv.send h)
        · exact cl_iv.send h
    · exact h
theorem cl_iv.pass (h : cl_iv c i) : cl_iv (cl_passS c k) i := by
  refine ⟨cl_passS_fr h.1, fun j => ?_⟩
  unfold cl_passS
  by_cases e : j = k
  · subst e
    split
    · simp only [cl_send, cl_set, va_up_self]
      exact h.2 j
    · simp only [cl_set, va_up_self]
      split
      · rw [va_up_ne _ _ (by omega)]
        exact h.2 j
      · exact h.2 j
  · split
    · simp only [cl_send, cl_set, va_up_ne _ _ e]
      exact h.2 j
    · simp only [cl_set, va_up_ne _ _ e]
      exact h.2 j
theorem cl_iv.use {path szx puts wish : Nat} {B : List Nat} (h : cl_iv c i) (h0 : c.1 k 2 = 0) : cl_iv (cl_use c k path szx puts wish B) (i + 1) := by
  unfold cl_use
  refine cl_iv.ask (cl_iv.set (h.mono (Nat.le_succ i)) (fun _ => h.1 k h0) ?_)
  have : sl_beg (c.1 k) path szx puts wish 9 = c.1 k 9 + 1 := by simp [sl_beg, va_up]
  rw [this]
  exact Nat.succ_le_succ (h.2 k)
end IV
section REL
variable {t u : ob_S} {s : st_S} {i : Nat}
theorem mo_Cs.fr (h : mo_Cs t s) (f : ob_Fr cs_P t u) : mo_Cs u s := by
  have hn : ¬ cs_P 103 := by show ¬ 103 < 103; omega
  have ff : mo_F (fun n _ => n < 103) t (u.1, u.2.1, u.2.2.1, u.2.2.2.1, t.2.2.2.2) := ⟨f.1, f.2.1, f.2.2.1, rfl, fun n j a => congrFun (f.2.2.2 n a).1 j⟩
  obtain ⟨h1, h2, h3, h4, h5⟩ := h
  have c2 : mo_Ci (u.1, u.2.1, u.2.2.1, u.2.2.2.1, t.2.2.2.2) s.1 := h2.f ff (fun n j a _ b => by have := dCl_all a; omega)
  have c3 : mo_Sx (u.1, u.2.1, u.2.2.1, u.2.2.2.1, t.2.2.2.2) s.2.1 := h3.f ff (fun n j a b => by have := dSv_all (Or.inl a); omega)
  refine ⟨⟨⟨by rw [f.1]; exact h1.1.1, by rw [f.2.1]; exact h1.1.2⟩, fun a ha => ?_⟩, c2, c3, ?_, h5⟩
  · obtain ⟨q1, q2, q3⟩ := h1.2 a ha
    exact ⟨by rw [(f.2.2.2 103 hn).2]; exact q1, ⟨by rw [f.1]; exact q2.1, by rw [f.2.1]; exact q2.2⟩, by rw [f.2.2.1]; exact q3⟩
  · rw [(f.2.2.2 103 hn).1]
    exact h4
theorem ob_Cs.fr (h : ob_Cs t s) (f : ob_Fr (fun q => 103 ≤ q) t u) : ob_Cs u s := by
  obtain ⟨h1, h2, h3, h4, F, S, P, h5⟩ := h
  exact ⟨h1.fr f (by omega), h2.fr f (fun q _ _ => by omega), h3.fr f (fun q _ => by omega), h4, F, S, P, h5.fr f (fun q _ _ => by omega)⟩
def Rel (i : Nat) (t : ob_S) : Prop := ∃ s, ob_Cs t s ∧ mo_Cs t s ∧ cl_iv s.1 i
theorem Rel.call {r : Int32} {s' : st_S} {XO : Option (Int32 × ob_S)} {XM : ob_S → Option (Int32 × ob_S)} (h2 : mo_Cs t s) (a : ∃ u, XO = some (r, u) ∧ ob_Cs u s' ∧ ob_Fr cs_P t u) (b : ∀ u, mo_Cs u s → ∃ w, XM u = some (r, w) ∧ mo_Cs w s' ∧ mo_F dAll u w) (iv : cl_iv s'.1 i) : ∃ (r : Int32) (t1 t2 : ob_S), XO = some (r, t1) ∧ XM t1 = some (r, t2) ∧ Rel i t2 := by
  obtain ⟨u, e1, c1, f1⟩ := a
  obtain ⟨w, e2, m2, f2⟩ := b u (h2.fr f1)
  exact ⟨r, u, w, e1, e2, s', c1.fr (f2.fr (fun n j z => z)), m2, iv⟩
theorem Rel.look {r : Int32} {XO : Option (Int32 × ob_S)} {XM : ob_S → Option (Int32 × ob_S)} (h1 : ob_Cs t s) (h2 : mo_Cs t s) (a : XO = some (r, t)) (b : XM t = some (r, t)) (iv : cl_iv s.1 i) : ∃ (r : Int32) (t1 t2 : ob_S), XO = some (r, t1) ∧ XM t1 = some (r, t2) ∧ Rel i t2 := ⟨r, t, t, a, b, s, h1, h2, iv⟩
theorem mo_Cs.by (h : mo_Cs t s) : ∀ q ∈ s.1.2.2.2.2, (∀ x ∈ q.1, x < 256) ∧ q.2 < 2 := by
  intro q hq
  obtain ⟨k, hk, e⟩ := List.getElem_of_mem hq
  have := h.2.1.2.2.2.2 k q (by rw [List.getElem?_eq_getElem hk, e])
  exact this.2.2.2.2
theorem iv_get (h : cl_iv s.1 i) (a b c d : Int32) : cl_iv (st_get s a b c d).2.1 (i + 1) := by
  unfold st_get
  split
  · exact h.mono (Nat.le_succ i)
  · split
    · rename_i h0
      exact cl_iv.use h h0
    · exact h.mono (Nat.le_succ i)
theorem iv_put (h : cl_iv s.1 i) (a b c n z : Int32) : cl_iv (st_put s a b c n z).2.1 (i + 1) := by
  unfold st_put
  split
  · exact h.mono (Nat.le_succ i)
  · split
    · rename_i h0
      exact cl_iv.use h h0
    · exact h.mono (Nat.le_succ i)
theorem iv_free (h : cl_iv s.1 i) (a : Int32) : cl_iv (st_free s a).2.1 i := by
  unfold st_free
  split
  · exact h
  · split
    · exact h
    · exact cl_iv.set h (fun _ => rfl) (by rw [va_up_ne _ _ (by omega)]; exact h.2 _)
theorem iv_change (h : cl_iv s.1 i) (a n z : Int32) : cl_iv (st_change s a n z).2.1 i := by
  unfold st_change
  split
  · exact h
  · exact h
theorem iv_tick (h : cl_iv s.1 i) : cl_iv (st_tick s).2.1 i := (h.pass (k := 0)).pass (k := 1)
theorem iv_lose (h : cl_iv s.1 i) (k : Int32) : cl_iv (st_lose s k).2.1 i := by
  unfold st_lose
  split
  · exact h
  · exact h
theorem iv_repeat (h : cl_iv s.1 i) (k : Int32) : cl_iv (st_repeat s k).2.1 i := by
  unfold st_repeat
  split
  · exact h
  · split
    · exact h
    · exact h
theorem iv_spoil (h : cl_iv s.1 i) (k j b : Int32) : cl_iv (st_spoil s k j b).2.1 i := by
  unfold st_spoil
  split
  · exact h
  · split
    · exact h
    · split
      · exact h
      · exact h
theorem iv_recv (h : cl_iv s.1 i) (e : Nat) (r : (Nat → Int32) × List (List Nat) × List Nat) : cl_iv (st_recv s e r).1 i := by
  unfold st_recv
  split
  · exact cl_iv.recv h
  · split
    · exact h
    · exact h
theorem iv_deliver (h : cl_iv s.1 i) (k : Int32) : cl_iv (st_deliver s k).2.1 i := by
  unfold st_deliver
  split
  · exact h
  · split
    · exact h
    · split
      · exact h
      · exact iv_recv (s := st_l s (s.1.2.2.2.2.eraseIdx k.toNatClampNeg)) h _ _
theorem rel_sim (i : Nat) (hi : i < 10000) : ob_Sim (Rel i) (Rel (i + 6)) := by
  refine ⟨?_, ?_, ?_, ?_, ?_, ?_, ?_, ?_, ?_, ?_, ?_, ?_, ?_, ?_, ?_, ?_⟩
  · rintro t ⟨s, h1, h2, h3⟩
    exact ⟨s, h1, h2, h3.mono (by omega)⟩
  · rintro t a b c d ⟨s, h1, h2, h3⟩ hd
    have hu : ∀ k, s.1.1 k 9 < 19999 := fun k => by have := h3.2 k; omega
    exact Rel.call h2 (x_Ob_get h1 a b c d hd hu) (fun u hu2 => z_Mo_get hu2 a b c d hd hu) ((iv_get h3 a b c d).mono (by omega))
  · rintro t a b c n z ⟨s, h1, h2, h3⟩
    have hu : ∀ k, s.1.1 k 9 < 19999 := fun k => by have := h3.2 k; omega
    exact Rel.call h2 (x_Ob_put h1 a b c n z hu) (fun u hu2 => z_Mo_put hu2 a b c n z hu) ((iv_put h3 a b c n z).mono (by omega))
  · rintro t a ⟨s, h1, h2, h3⟩
    exact Rel.call h2 (x_Ob_free h1 a) (fun u hu2 => z_Mo_free hu2 a) ((iv_free h3 a).mono (by omega))
  · rintro t a n z ⟨s, h1, h2, h3⟩
    exact Rel.call h2 (x_Ob_change h1 a n z) (fun u hu2 => z_Mo_change hu2 a n z) ((iv_change h3 a n z).mono (by omega))
  · rintro t ⟨s, h1, h2, h3⟩
    exact Rel.call h2 (x_Ob_tick h1) (fun u hu2 => z_Mo_tick hu2 h3.1) ((iv_tick h3).mono (by omega))
  · rintro t k ⟨s, h1, h2, h3⟩
    exact Rel.call h2 (x_Ob_deliver h1 k h2.by) (fun u hu2 => z_Mo_deliver hu2 k) ((iv_deliver h3 k).mono (by omega))
  · rintro t k ⟨s, h1, h2, h3⟩
    exact Rel.call h2 (x_Ob_lose h1 k) (fun u hu2 => z_Mo_lose hu2 k) ((iv_lose h3 k).mono (by omega))
  · rintro t k ⟨s, h1, h2, h3⟩
    exact Rel.call h2 (x_Ob_repeat h1 k) (fun u hu2 => z_Mo_repeat hu2 k) ((iv_repeat h3 k).mono (by omega))
  · rintro t k j b ⟨s, h1, h2, h3⟩
    exact Rel.call h2 (x_Ob_spoil h1 k j b (fun q hq => (h2.by q hq).1)) (fun u hu2 => z_Mo_spoil hu2 k j b) ((iv_spoil h3 k j b).mono (by omega))
  · rintro t ⟨s, h1, h2, h3⟩
    exact Rel.look h1 h2 (x_Ob_waiting h1) (z_Mo_waiting h2) (h3.mono (by omega))
  · rintro t k j ⟨s, h1, h2, h3⟩
    exact Rel.look h1 h2 (x_Ob_datagram h1 k j) (z_Mo_datagram h2 k j) (h3.mono (by omega))
  · rintro t a b ⟨s, h1, h2, h3⟩
    exact Rel.look h1 h2 (x_Ob_slot h1 a b) (z_Mo_slot h2 a b) (h3.mono (by omega))
  · rintro t a b ⟨s, h1, h2, h3⟩
    exact Rel.look h1 h2 (x_Ob_body h1 a b) (z_Mo_body h2 a b) (h3.mono (by omega))
  · rintro t a b ⟨s, h1, h2, h3⟩
    exact Rel.look h1 h2 (x_Ob_content h1 a b) (z_Mo_content h2 a b) (h3.mono (by omega))
  · rintro t a ⟨s, h1, h2, h3⟩
    exact Rel.look h1 h2 (x_Ob_server h1 a) (z_Mo_server h2 a) (h3.mono (by omega))
end REL

/-! LAYER 2, 39: the reference reads a number -/
/-- a value's number, and is it the shortest form -/
def pv (V : List Nat) : Nat := match V with
  | [] => 0
  | [x] => x
  | [x, y] => 256 * x + y
  | _ => 0
def pshb (V : List Nat) : Bool := match V with
  | [] => true
  | [x] => decide (x ≠ 0)
  | [x, _] => decide (x ≠ 0)
  | _ => false
abbrev psh (V : List Nat) : Prop := pshb V = true
theorem psh_num (V : List Nat) : (psh V → ps_num V = nI (pv V)) ∧ (¬ psh V → ps_num V = -1) := by
  match V with
  | [] => exact ⟨fun _ => rfl, fun z => absurd rfl z⟩
  | [x] =>
    refine ⟨fun z => ?_, fun z => ?_⟩
    · rw [ps_num, if_neg (show ¬ x = 0 from of_decide_eq_true (p := x ≠ 0) z)]
      rfl
    · rw [ps_num, if_pos (show x = 0 from Classical.byContradiction (fun k => z (decide_eq_true (p := x ≠ 0) k)))]
  | [x, y] =>
    refine ⟨fun z => ?_, fun z => ?_⟩
    · rw [ps_num, if_neg (show ¬ x = 0 from of_decide_eq_true (p := x ≠ 0) z)]
      rfl
    · rw [ps_num, if_pos (show x = 0 from Classical.byContradiction (fun k => z (decide_eq_true (p := x ≠ 0) k)))]
  | x :: y :: k :: V => exact ⟨fun z => Bool.noConfusion z, fun _ => rfl⟩
theorem pv_lt {V : List Nat} (h : ∀ x ∈ V, x < 256) : pv V < 65536 := by
  match V, h with
  | [], _ => decide
  | [x], h => have := h x (by simp); show x < 65536; omega
  | [x, y], h => have := h x (by simp); have := h y (by simp); show 256 * x + y < 65536; omega
  | x :: y :: z :: V, _ => show 0 < 65536; omega
theorem y_num41 {t : ob_S} {num a : Nat} {V : List Nat} (hS : mo_sh t) (hV : mo_rw t 141 a V) (hl : a + V.length ≤ 64) (hb : ∀ x ∈ V, x < 256) : X_Mo_readNumber 103 (nI num) (nI a) (nI V.length) t = (if psh V then B_Mo_readNumber_64 103 (nI num) (nI (pv V)) 1 t else B_Mo_readNumber_64 103 (nI num) (nI (pv V)) 0 t) := by
  simp (disch := first | assumption | (simp only [mo_shs]; assumption) | omega | (simp; done) | contradiction) only [X_Mo_readNumber, ob_i_self, ob_i_n, ob_i_k, mo_shs, Option.bind_some, ob_b2_s, mo_this, mo_g, mo_p, mo_r0, mo_r1, mo_r2, mo_r7, mo_r8, mo_r9, mo_r10, mo_r11, mo_r12, mo_r13, mo_r14, mo_r15, mo_r16, mo_r17, mo_r18, mo_r19, mo_r20, mo_r21, mo_r22, mo_r23, mo_r24, mo_r25, mo_r26, mo_r27, mo_r28, mo_r29, mo_r30, mo_r31, mo_r33, mo_r34, mo_r35, mo_r36, mo_r40, mo_r41, mo_r42, mo_r43, mo_r44, mo_r47, mo_r55, mo_r56, mo_a104, mo_a105, mo_a106, mo_a107, mo_a108, mo_a109, mo_a110, mo_a111, mo_a112, mo_a113, mo_a114, mo_a115, mo_a116, mo_a117, mo_a118, mo_a119, mo_a120, mo_a121, mo_a122, mo_a123, mo_a124, mo_a125, mo_a126, mo_a127, mo_a128, mo_a129, mo_a130, mo_a131, mo_a132, mo_a133, mo_a134, mo_a135, mo_a136, mo_a137, mo_a138, mo_a139, mo_a140, mo_a141, mo_a142, mo_a143, mo_w104, mo_w105, mo_w106, mo_w107, mo_w108, mo_w109, mo_w110, mo_w111, mo_w112, mo_w113, mo_w114, mo_w115, mo_w116, mo_w117, mo_w118, mo_w119, mo_w120, mo_w121, mo_w122, mo_w123, mo_w124, mo_w125, mo_w126, mo_w127, mo_w128, mo_w129, mo_w130, mo_w131, mo_w132, mo_w133, mo_w134, mo_w135, mo_w136, mo_w137, mo_w138, mo_w139, mo_w140, mo_w141, mo_w142, mo_w143]
  match V, hV, hl, hb with
  | [], hV, hl, hb =>
    show B_Mo_readNumber_6 (1999 + 1) 103 (nI num) (nI a) (nI 0) 0 0 t = _
    rw [B_Mo_readNumber_6, if_pos (show nI 0 ≤ 0 by decide), B_Mo_readNumber_41, if_neg (show ¬ (3 : Int32) ≤ nI 0 by decide), if_pos (show nI 0 = 0 from rfl), B_Mo_readNumber_59, if_pos (show psh [] from rfl)]
    rfl
  | [x], hV, hl, hb =>
    have hl : a + 1 ≤ 64 := hl
    have hx := hb x (by simp)
    have e0 : ob_i t 141 a = nI x := hV 0 (by simp)
    show B_Mo_readNumber_6 (1998 + 1 + 1) 103 (nI num) (nI a) (nI 1) 0 0 t = _
    rw [B_Mo_readNumber_6, if_neg (show ¬ nI 1 ≤ 0 by decide), if_neg (show ¬ (3 : Int32) ≤ nI 1 by decide)]
    rw [show (nI a + 0 : Int32) = nI a from Int32.add_zero _]
    simp (disch := first | assumption | (simp only [mo_shs]; assumption) | omega | (simp; done) | contradiction) only [ob_i_self, ob_i_n, ob_i_k, mo_shs, Option.bind_some, ob_b2_s, mo_this, mo_g, mo_p, mo_r0, mo_r1, mo_r2, mo_r7, mo_r8, mo_r9, mo_r10, mo_r11, mo_r12, mo_r13, mo_r14, mo_r15, mo_r16, mo_r17, mo_r18, mo_r19, mo_r20, mo_r21, mo_r22, mo_r23, mo_r24, mo_r25, mo_r26, mo_r27, mo_r28, mo_r29, mo_r30, mo_r31, mo_r33, mo_r34, mo_r35, mo_r36, mo_r40, mo_r41, mo_r42, mo_r43, mo_r44, mo_r47, mo_r55, mo_r56, mo_a104, mo_a105, mo_a106, mo_a107, mo_a108, mo_a109, mo_a110, mo_a111, mo_a112, mo_a113, mo_a114, mo_a115, mo_a116, mo_a117, mo_a118, mo_a119, mo_a120, mo_a121, mo_a122, mo_a123, mo_a124, mo_a125, mo_a126, mo_a127, mo_a128, mo_a129, mo_a130, mo_a131, mo_a132, mo_a133, mo_a134, mo_a135, mo_a136, mo_a137, mo_a138, mo_a139, mo_a140, mo_a141, mo_a142, mo_a143, mo_w104, mo_w105, mo_w106, mo_w107, mo_w108, mo_w109, mo_w110, mo_w111, mo_w112, mo_w113, mo_w114, mo_w115, mo_w116, mo_w117, mo_w118, mo_w119, mo_w120, mo_w121, mo_w122, mo_w123, mo_w124, mo_w125, mo_w126, mo_w127, mo_w128, mo_w129, mo_w130, mo_w131, mo_w132, mo_w133, mo_w134, mo_w135, mo_w136, mo_w137, mo_w138, mo_w139, mo_w140, mo_w141, mo_w142, mo_w143, e0]
    rw [show (256 : Int32) * 0 + nI x = nI x by rw [Int32.mul_zero, Int32.zero_add], show (0 : Int32) + 1 = nI 1 from rfl, B_Mo_readNumber_6, if_pos (show nI 1 ≤ nI 1 by decide), B_Mo_readNumber_41, if_neg (show ¬ (3 : Int32) ≤ nI 1 by decide), if_neg (show ¬ nI 1 = 0 by decide)]
    simp (disch := first | assumption | (simp only [mo_shs]; assumption) | omega | (simp; done) | contradiction) only [ob_i_self, ob_i_n, ob_i_k, mo_shs, Option.bind_some, ob_b2_s, mo_this, mo_g, mo_p, mo_r0, mo_r1, mo_r2, mo_r7, mo_r8, mo_r9, mo_r10, mo_r11, mo_r12, mo_r13, mo_r14, mo_r15, mo_r16, mo_r17, mo_r18, mo_r19, mo_r20, mo_r21, mo_r22, mo_r23, mo_r24, mo_r25, mo_r26, mo_r27, mo_r28, mo_r29, mo_r30, mo_r31, mo_r33, mo_r34, mo_r35, mo_r36, mo_r40, mo_r41, mo_r42, mo_r43, mo_r44, mo_r47, mo_r55, mo_r56, mo_a104, mo_a105, mo_a106, mo_a107, mo_a108, mo_a109, mo_a110, mo_a111, mo_a112, mo_a113, mo_a114, mo_a115, mo_a116, mo_a117, mo_a118, mo_a119, mo_a120, mo_a121, mo_a122, mo_a123, mo_a124, mo_a125, mo_a126, mo_a127, mo_a128, mo_a129, mo_a130, mo_a131, mo_a132, mo_a133, mo_a134, mo_a135, mo_a136, mo_a137, mo_a138, mo_a139, mo_a140, mo_a141, mo_a142, mo_a143, mo_w104, mo_w105, mo_w106, mo_w107, mo_w108, mo_w109, mo_w110, mo_w111, mo_w112, mo_w113, mo_w114, mo_w115, mo_w116, mo_w117, mo_w118, mo_w119, mo_w120, mo_w121, mo_w122, mo_w123, mo_w124, mo_w125, mo_w126, mo_w127, mo_w128, mo_w129, mo_w130, mo_w131, mo_w132, mo_w133, mo_w134, mo_w135, mo_w136, mo_w137, mo_w138, mo_w139, mo_w140, mo_w141, mo_w142, mo_w143, e0]
    by_cases c : x = 0
    · rw [if_pos (show nI x = 0 by rw [c]; rfl), B_Mo_readNumber_63, if_neg (show ¬ psh [x] from fun z => of_decide_eq_true (p := x ≠ 0) z c)]
      rfl
    · rw [if_neg (nI_ne0 (by omega) (by omega)), B_Mo_readNumber_59, if_pos (show psh [x] from decide_eq_true (p := x ≠ 0) c)]
      rfl
  | [x, y], hV, hl, hb =>
    have hl : a + 2 ≤ 64 := hl
    have hx := hb x (by simp)
    have hy := hb y (by simp)
    have e0 : ob_i t 141 a = nI x := hV 0 (by simp)
    have e1 : ob_i t 141 (a + 1) = nI y := hV 1 (by simp)
    show B_Mo_readNumber_6 (1997 + 1 + 1 + 1) 103 (nI num) (nI a) (nI 2) 0 0 t = _
    rw [B_Mo_readNumber_6, if_neg (show ¬ nI 2 ≤ 0 by decide), if_neg (show ¬ (3 : Int32) ≤ nI 2 by decide)]
    rw [show (nI a + 0 : Int32) = nI a from Int32.add_zero _]
    simp (disch := first | assumption | (simp only [mo_shs]; assumption) | omega | (simp; done) | contradiction) only [ob_i_self, ob_i_n, ob_i_k, mo_shs, Option.bind_some, ob_b2_s, mo_this, mo_g, mo_p, mo_r0, mo_r1, mo_r2, mo_r7, mo_r8, mo_r9, mo_r10, mo_r11, mo_r12, mo_r13, mo_r14, mo_r15, mo_r16, mo_r17, mo_r18, mo_r19, mo_r20, mo_r21, mo_r22, mo_r23, mo_r24, mo_r25, mo_r26, mo_r27, mo_r28, mo_r29, mo_r30, mo_r31, mo_r33, mo_r34, mo_r35, mo_r36, mo_r40, mo_r41, mo_r42, mo_r43, mo_r44, mo_r47, mo_r55, mo_r56, mo_a104, mo_a105, mo_a106, mo_a107, mo_a108, mo_a109, mo_a110, mo_a111, mo_a112, mo_a113, mo_a114, mo_a115, mo_a116, mo_a117, mo_a118, mo_a119, mo_a120, mo_a121, mo_a122, mo_a123, mo_a124, mo_a125, mo_a126, mo_a127, mo_a128, mo_a129, mo_a130, mo_a131, mo_a132, mo_a133, mo_a134, mo_a135, mo_a136, mo_a137, mo_a138, mo_a139, mo_a140, mo_a141, mo_a142, mo_a143, mo_w104, mo_w105, mo_w106, mo_w107, mo_w108, mo_w109, mo_w110, mo_w111, mo_w112, mo_w113, mo_w114, mo_w115, mo_w116, mo_w117, mo_w118, mo_w119, mo_w120, mo_w121, mo_w122, mo_w123, mo_w124, mo_w125, mo_w126, mo_w127, mo_w128, mo_w129, mo_w130, mo_w131, mo_w132, mo_w133, mo_w134, mo_w135, mo_w136, mo_w137, mo_w138, mo_w139, mo_w140, mo_w141, mo_w142, mo_w143, e0]
    rw [show (256 : Int32) * 0 + nI x = nI x by rw [Int32.mul_zero, Int32.zero_add], show (0 : Int32) + 1 = nI 1 from rfl, B_Mo_readNumber_6, if_neg (show ¬ nI 2 ≤ nI 1 by decide), if_neg (show ¬ (3 : Int32) ≤ nI 2 by decide), nI_add]
    simp (disch := first | assumption | (simp only [mo_shs]; assumption) | omega | (simp; done) | contradiction) only [ob_i_self, ob_i_n, ob_i_k, mo_shs, Option.bind_some, ob_b2_s, mo_this, mo_g, mo_p, mo_r0, mo_r1, mo_r2, mo_r7, mo_r8, mo_r9, mo_r10, mo_r11, mo_r12, mo_r13, mo_r14, mo_r15, mo_r16, mo_r17, mo_r18, mo_r19, mo_r20, mo_r21, mo_r22, mo_r23, mo_r24, mo_r25, mo_r26, mo_r27, mo_r28, mo_r29, mo_r30, mo_r31, mo_r33, mo_r34, mo_r35, mo_r36, mo_r40, mo_r41, mo_r42, mo_r43, mo_r44, mo_r47, mo_r55, mo_r56, mo_a104, mo_a105, mo_a106, mo_a107, mo_a108, mo_a109, mo_a110, mo_a111, mo_a112, mo_a113, mo_a114, mo_a115, mo_a116, mo_a117, mo_a118, mo_a119, mo_a120, mo_a121, mo_a122, mo_a123, mo_a124, mo_a125, mo_a126, mo_a127, mo_a128, mo_a129, mo_a130, mo_a131, mo_a132, mo_a133, mo_a134, mo_a135, mo_a136, mo_a137, mo_a138, mo_a139, mo_a140, mo_a141, mo_a142, mo_a143, mo_w104, mo_w105, mo_w106, mo_w107, mo_w108, mo_w109, mo_w110, mo_w111, mo_w112, mo_w113, mo_w114, mo_w115, mo_w116, mo_w117, mo_w118, mo_w119, mo_w120, mo_w121, mo_w122, mo_w123, mo_w124, mo_w125, mo_w126, mo_w127, mo_w128, mo_w129, mo_w130, mo_w131, mo_w132, mo_w133, mo_w134, mo_w135, mo_w136, mo_w137, mo_w138, mo_w139, mo_w140, mo_w141, mo_w142, mo_w143, e1]
    rw [show (256 : Int32) * nI x + nI y = nI (256 * x + y) by rw [show (256 : Int32) = nI 256 from rfl, pk_mul, nI_add], show nI 1 + 1 = nI 2 from rfl, B_Mo_readNumber_6, if_pos (show nI 2 ≤ nI 2 by decide), B_Mo_readNumber_41, if_neg (show ¬ (3 : Int32) ≤ nI 2 by decide), if_neg (show ¬ nI 2 = 0 by decide)]
    simp (disch := first | assumption | (simp only [mo_shs]; assumption) | omega | (simp; done) | contradiction) only [ob_i_self, ob_i_n, ob_i_k, mo_shs, Option.bind_some, ob_b2_s, mo_this, mo_g, mo_p, mo_r0, mo_r1, mo_r2, mo_r7, mo_r8, mo_r9, mo_r10, mo_r11, mo_r12, mo_r13, mo_r14, mo_r15, mo_r16, mo_r17, mo_r18, mo_r19, mo_r20, mo_r21, mo_r22, mo_r23, mo_r24, mo_r25, mo_r26, mo_r27, mo_r28, mo_r29, mo_r30, mo_r31, mo_r33, mo_r34, mo_r35, mo_r36, mo_r40, mo_r41, mo_r42, mo_r43, mo_r44, mo_r47, mo_r55, mo_r56, mo_a104, mo_a105, mo_a106, mo_a107, mo_a108, mo_a109, mo_a110, mo_a111, mo_a112, mo_a113, mo_a114, mo_a115, mo_a116, mo_a117, mo_a118, mo_a119, mo_a120, mo_a121, mo_a122, mo_a123, mo_a124, mo_a125, mo_a126, mo_a127, mo_a128, mo_a129, mo_a130, mo_a131, mo_a132, mo_a133, mo_a134, mo_a135, mo_a136, mo_a137, mo_a138, mo_a139, mo_a140, mo_a141, mo_a142, mo_a143, mo_w104, mo_w105, mo_w106, mo_w107, mo_w108, mo_w109, mo_w110, mo_w111, mo_w112, mo_w113, mo_w114, mo_w115, mo_w116, mo_w117, mo_w118, mo_w119, mo_w120, mo_w121, mo_w122, mo_w123, mo_w124, mo_w125, mo_w126, mo_w127, mo_w128, mo_w129, mo_w130, mo_w131, mo_w132, mo_w133, mo_w134, mo_w135, mo_w136, mo_w137, mo_w138, mo_w139, mo_w140, mo_w141, mo_w142, mo_w143, e0]
    by_cases c : x = 0
    · rw [if_pos (show nI x = 0 by rw [c]; rfl), B_Mo_readNumber_63, if_neg (show ¬ psh [x, y] from fun z => of_decide_eq_true (p := x ≠ 0) z c)]
      rfl
    · rw [if_neg (nI_ne0 (by omega) (by omega)), B_Mo_readNumber_59, if_pos (show psh [x, y] from decide_eq_true (p := x ≠ 0) c)]
      rfl
  | x :: y :: z :: V, hV, hl, hb =>
    have e3 : (3 : Int32) ≤ nI (x :: y :: z :: V).length := nI_le (a := 3) (by simp) (by omega)
    show B_Mo_readNumber_6 (1999 + 1) 103 (nI num) (nI a) (nI (x :: y :: z :: V).length) 0 0 t = _
    rw [B_Mo_readNumber_6, if_neg (show ¬ nI (x :: y :: z :: V).length ≤ 0 from nI_nle (by simp) (by omega)), if_pos e3, B_Mo_readNumber_41, if_pos e3, B_Mo_readNumber_63, if_neg (show ¬ psh (x :: y :: z :: V) from fun k => Bool.noConfusion k)]
    rfl
/-- a number is read: 6 -/
theorem y_num6 {t : ob_S} {a : Nat} {V : List Nat} (hS : mo_sh t) (hV : mo_rw t 141 a V) (hl : a + V.length ≤ 64) (hb : ∀ x ∈ V, x < 256) : ∃ z u, X_Mo_readNumber 103 6 (nI a) (nI V.length) t = some (z, u) ∧ (z = 0 ↔ ps_num V = -1) ∧ (z ≠ 0 → u = ob_setI t 103 53 (ps_num V)) ∧ mo_F (fun n j => n = 103 ∧ j = 53) t u := by
  have e := (y_num41 (num := 6) hS hV hl hb)
  have hv := pv_lt hb
  have q := psh_num V
  refine ⟨if psh V then 1 else 0, ob_setI t 103 53 (nI (pv V)), ?_, ?_, ?_, mo_F.o ⟨rfl, rfl⟩⟩
  · refine Eq.trans e ?_
    by_cases c : psh V
    · rw [if_pos c, if_pos c]
      simp (disch := first | assumption | (simp only [mo_shs]; assumption) | omega | (simp; done) | contradiction) only [B_Mo_readNumber_64, ob_i_self, ob_i_n, ob_i_k, mo_shs, Option.bind_some, ob_b2_s, mo_this, mo_g, mo_p, mo_r0, mo_r1, mo_r2, mo_r7, mo_r8, mo_r9, mo_r10, mo_r11, mo_r12, mo_r13, mo_r14, mo_r15, mo_r16, mo_r17, mo_r18, mo_r19, mo_r20, mo_r21, mo_r22, mo_r23, mo_r24, mo_r25, mo_r26, mo_r27, mo_r28, mo_r29, mo_r30, mo_r31, mo_r33, mo_r34, mo_r35, mo_r36, mo_r40, mo_r41, mo_r42, mo_r43, mo_r44, mo_r47, mo_r55, mo_r56, mo_a104, mo_a105, mo_a106, mo_a107, mo_a108, mo_a109, mo_a110, mo_a111, mo_a112, mo_a113, mo_a114, mo_a115, mo_a116, mo_a117, mo_a118, mo_a119, mo_a120, mo_a121, mo_a122, mo_a123, mo_a124, mo_a125, mo_a126, mo_a127, mo_a128, mo_a129, mo_a130, mo_a131, mo_a132, mo_a133, mo_a134, mo_a135, mo_a136, mo_a137, mo_a138, mo_a139, mo_a140, mo_a141, mo_a142, mo_a143, mo_w104, mo_w105, mo_w106, mo_w107, mo_w108, mo_w109, mo_w110, mo_w111, mo_w112, mo_w113, mo_w114, mo_w115, mo_w116, mo_w117, mo_w118, mo_w119, mo_w120, mo_w121, mo_w122, mo_w123, mo_w124, mo_w125, mo_w126, mo_w127, mo_w128, mo_w129, mo_w130, mo_w131, mo_w132, mo_w133, mo_w134, mo_w135, mo_w136, mo_w137, mo_w138, mo_w139, mo_w140, mo_w141, mo_w142, mo_w143]
      rw [if_neg (show ¬ ¬ nI 6 = (6 : Int32) from fun z => z rfl)]
      rfl
    · rw [if_neg c, if_neg c]
      simp (disch := first | assumption | (simp only [mo_shs]; assumption) | omega | (simp; done) | contradiction) only [B_Mo_readNumber_64, ob_i_self, ob_i_n, ob_i_k, mo_shs, Option.bind_some, ob_b2_s, mo_this, mo_g, mo_p, mo_r0, mo_r1, mo_r2, mo_r7, mo_r8, mo_r9, mo_r10, mo_r11, mo_r12, mo_r13, mo_r14, mo_r15, mo_r16, mo_r17, mo_r18, mo_r19, mo_r20, mo_r21, mo_r22, mo_r23, mo_r24, mo_r25, mo_r26, mo_r27, mo_r28, mo_r29, mo_r30, mo_r31, mo_r33, mo_r34, mo_r35, mo_r36, mo_r40, mo_r41, mo_r42, mo_r43, mo_r44, mo_r47, mo_r55, mo_r56, mo_a104, mo_a105, mo_a106, mo_a107, mo_a108, mo_a109, mo_a110, mo_a111, mo_a112, mo_a113, mo_a114, mo_a115, mo_a116, mo_a117, mo_a118, mo_a119, mo_a120, mo_a121, mo_a122, mo_a123, mo_a124, mo_a125, mo_a126, mo_a127, mo_a128, mo_a129, mo_a130, mo_a131, mo_a132, mo_a133, mo_a134, mo_a135, mo_a136, mo_a137, mo_a138, mo_a139, mo_a140, mo_a141, mo_a142, mo_a143, mo_w104, mo_w105, mo_w106, mo_w107, mo_w108, mo_w109, mo_w110, mo_w111, mo_w112, mo_w113, mo_w114, mo_w115, mo_w116, mo_w117, mo_w118, mo_w119, mo_w120, mo_w121, mo_w122, mo_w123, mo_w124, mo_w125, mo_w126, mo_w127, mo_w128, mo_w129, mo_w130, mo_w131, mo_w132, mo_w133, mo_w134, mo_w135, mo_w136, mo_w137, mo_w138, mo_w139, mo_w140, mo_w141, mo_w142, mo_w143]
      rw [if_neg (show ¬ ¬ nI 6 = (6 : Int32) from fun z => z rfl)]
      rfl
  · by_cases c : psh V
    · rw [if_pos c, q.1 c]
      refine ⟨fun z => absurd z (by decide), fun z => absurd z (oI_some (x := pv V) (by omega))⟩
    · rw [if_neg c, q.2 c]
      exact ⟨fun _ => rfl, fun _ => rfl⟩
  · intro z
    by_cases c : psh V
    · rw [q.1 c]
    · rw [if_neg c] at z
      exact absurd rfl z
theorem ps_blkb_e {V : List Nat} (hb : ∀ x ∈ V, x < 256) : ps_blkb (ps_num V) = if psh V ∧ pv V ≤ 1023 ∧ pv V % 8 < 2 then 1 else 0 := by
  have hv := pv_lt hb
  have q := psh_num V
  unfold ps_blkb
  by_cases c : psh V
  · rw [q.1 c, if_neg (show ¬ nI (pv V) = -1 from oI_some (x := pv V) (by omega))]
    by_cases c1 : 1023 < pv V
    · rw [if_pos (show (1023 : Int32) < nI (pv V) from nI_lt (a := 1023) c1 (by omega)), if_neg (by omega)]
    · rw [if_neg (show ¬ (1023 : Int32) < nI (pv V) from nI_nlt (a := 1023) (by omega) (by omega)), pk_andN (by omega) (m := 7) 3 (by decide)]
      by_cases c2 : 1 < pv V % 8
      · rw [if_pos (show (1 : Int32) < nI (pv V % 2 ^ 3) from nI_lt (a := 1) c2 (by omega)), if_neg (by omega)]
      · rw [if_neg (show ¬ (1 : Int32) < nI (pv V % 2 ^ 3) from nI_nlt (a := 1) (by omega) (by omega)), if_pos ⟨c, by omega, by omega⟩]
  · rw [q.2 c, if_pos rfl, if_neg (fun z => c z.1)]
/-- a number is read: 23 or 27 -/
theorem y_num23 {t : ob_S} {a num : Nat} {V : List Nat} (hS : mo_sh t) (hn : num = 23 ∨ num = 27) (hV : mo_rw t 141 a V) (hl : a + V.length ≤ 64) (hb : ∀ x ∈ V, x < 256) : ∃ z u, X_Mo_readNumber 103 (nI num) (nI a) (nI V.length) t = some (z, u) ∧ (z = 0 ↔ ps_blkb (ps_num V) = 0) ∧ (z ≠ 0 → ob_i u 103 (if num = 23 then 57 else 58) = ps_num V ∧ ob_i u 103 (if num = 23 then 58 else 57) = ob_i t 103 (if num = 23 then 58 else 57)) ∧ mo_F (fun n j => n = 103 ∧ (j = 57 ∨ j = 58)) t u := by
  have e := (y_num41 (num := num) hS hV hl hb)
  have hv := pv_lt hb
  have q := psh_num V
  have f : ∀ x y, mo_F (fun n j => n = 103 ∧ (j = 57 ∨ j = 58)) t (ob_setI (ob_setI t 103 57 x) 103 58 y) := fun x y => (mo_F.o (by omega)).s (by omega)
  have em : nI (pv V) - nI (pv V) / 8 * 8 = nI (pv V % 8) := by
    rw [show (8 : Int32) = nI 8 from rfl, pk_rem (by omega) (by omega) (by omega)]
  have go : ∀ (x y : Int32), ((num = 23 ∧ x = nI (pv V) ∧ y = ob_i t 103 58) ∨ (num = 27 ∧ x = ob_i t 103 57 ∧ y = nI (pv V))) → (∀ b : Int32, b = 0 ∨ b = 1 → B_Mo_readNumber_64 103 (nI num) (nI (pv V)) b t = if b = 0 ∨ 1023 < pv V ∨ 2 ≤ pv V % 8 then some (0, ob_setI (ob_setI t 103 57 x) 103 58 y) else some (1, ob_setI (ob_setI t 103 57 x) 103 58 y)) := by
    intro x y hxy b hb
    have e58 : ob_i (ob_setI t 103 57 (nI (pv V))) 103 58 = ob_i t 103 58 := ob_i_k (by omega)
    have tail : B_Mo_readNumber_116 (nI (pv V)) b y 103 (ob_setI t 103 57 x) = if b = 0 ∨ 1023 < pv V ∨ 2 ≤ pv V % 8 then some (0, ob_setI (ob_setI t 103 57 x) 103 58 y) else some (1, ob_setI (ob_setI t 103 57 x) 103 58 y) := by
      simp (disch := first | assumption | (simp only [mo_shs]; assumption) | omega | (simp; done) | contradiction) only [B_Mo_readNumber_116, B_Mo_readNumber_145, ob_i_self, ob_i_n, ob_i_k, mo_shs, Option.bind_some, ob_b2_s, mo_this, mo_g, mo_p, mo_r0, mo_r1, mo_r2, mo_r7, mo_r8, mo_r9, mo_r10, mo_r11, mo_r12, mo_r13, mo_r14, mo_r15, mo_r16, mo_r17, mo_r18, mo_r19, mo_r20, mo_r21, mo_r22, mo_r23, mo_r24, mo_r25, mo_r26, mo_r27, mo_r28, mo_r29, mo_r30, mo_r31, mo_r33, mo_r34, mo_r35, mo_r36, mo_r40, mo_r41, mo_r42, mo_r43, mo_r44, mo_r47, mo_r55, mo_r56, mo_a104, mo_a105, mo_a106, mo_a107, mo_a108, mo_a109, mo_a110, mo_a111, mo_a112, mo_a113, mo_a114, mo_a115, mo_a116, mo_a117, mo_a118, mo_a119, mo_a120, mo_a121, mo_a122, mo_a123, mo_a124, mo_a125, mo_a126, mo_a127, mo_a128, mo_a129, mo_a130, mo_a131, mo_a132, mo_a133, mo_a134, mo_a135, mo_a136, mo_a137, mo_a138, mo_a139, mo_a140, mo_a141, mo_a142, mo_a143, mo_w104, mo_w105, mo_w106, mo_w107, mo_w108, mo_w109, mo_w110, mo_w111, mo_w112, mo_w113, mo_w114, mo_w115, mo_w116, mo_w117, mo_w118, mo_w119, mo_w120, mo_w121, mo_w122, mo_w123, mo_w124, mo_w125, mo_w126, mo_w127, mo_w128, mo_w129, mo_w130, mo_w131, mo_w132, mo_w133, mo_w134, mo_w135, mo_w136, mo_w137, mo_w138, mo_w139, mo_w140, mo_w141, mo_w142, mo_w143, em]
      by_cases c0 : b = 0
      · rw [if_pos c0, if_pos (Or.inl c0)]
        rfl
      · rw [if_neg c0]
        by_cases c1 : 1023 < pv V
        · rw [if_pos (show (1023 : Int32) < nI (pv V) from nI_lt (a := 1023) c1 (by omega)), if_pos (Or.inr (Or.inl c1))]
          rfl
        · rw [if_neg (show ¬ (1023 : Int32) < nI (pv V) from nI_nlt (a := 1023) (by omega) (by omega))]
          by_cases c2 : 2 ≤ pv V % 8
          · rw [if_pos (show (2 : Int32) ≤ nI (pv V % 8) from nI_le (a := 2) c2 (by omega)), if_pos (Or.inr (Or.inr c2))]
            rfl
          · rw [if_neg (show ¬ (2 : Int32) ≤ nI (pv V % 8) from nI_ge (b := 2) (by omega) (by omega)), if_neg (by
              rintro (z | z | z)
              · exact c0 z
              · omega
              · omega)]
            rfl
    rcases hxy with ⟨n1, n2, n3⟩ | ⟨n1, n2, n3⟩
    · subst n1 n2 n3
      rw [← tail]
      simp (disch := first | assumption | (simp only [mo_shs]; assumption) | omega | (simp; done) | contradiction) only [B_Mo_readNumber_64, B_Mo_readNumber_97, ob_i_self, ob_i_n, ob_i_k, mo_shs, Option.bind_some, ob_b2_s, mo_this, mo_g, mo_p, mo_r0, mo_r1, mo_r2, mo_r7, mo_r8, mo_r9, mo_r10, mo_r11, mo_r12, mo_r13, mo_r14, mo_r15, mo_r16, mo_r17, mo_r18, mo_r19, mo_r20, mo_r21, mo_r22, mo_r23, mo_r24, mo_r25, mo_r26, mo_r27, mo_r28, mo_r29, mo_r30, mo_r31, mo_r33, mo_r34, mo_r35, mo_r36, mo_r40, mo_r41, mo_r42, mo_r43, mo_r44, mo_r47, mo_r55, mo_r56, mo_a104, mo_a105, mo_a106, mo_a107, mo_a108, mo_a109, mo_a110, mo_a111, mo_a112, mo_a113, mo_a114, mo_a115, mo_a116, mo_a117, mo_a118, mo_a119, mo_a120, mo_a121, mo_a122, mo_a123, mo_a124, mo_a125, mo_a126, mo_a127, mo_a128, mo_a129, mo_a130, mo_a131, mo_a132, mo_a133, mo_a134, mo_a135, mo_a136, mo_a137, mo_a138, mo_a139, mo_a140, mo_a141, mo_a142, mo_a143, mo_w104, mo_w105, mo_w106, mo_w107, mo_w108, mo_w109, mo_w110, mo_w111, mo_w112, mo_w113, mo_w114, mo_w115, mo_w116, mo_w117, mo_w118, mo_w119, mo_w120, mo_w121, mo_w122, mo_w123, mo_w124, mo_w125, mo_w126, mo_w127, mo_w128, mo_w129, mo_w130, mo_w131, mo_w132, mo_w133, mo_w134, mo_w135, mo_w136, mo_w137, mo_w138, mo_w139, mo_w140, mo_w141, mo_w142, mo_w143, e58]
      rw [if_pos (show ¬ nI 23 = (6 : Int32) by decide), if_neg (show ¬ ¬ nI 23 = (23 : Int32) from fun z => z rfl), if_pos (show ¬ nI 23 = (27 : Int32) by decide)]
    · subst n1 n2 n3
      rw [← tail]
      simp (disch := first | assumption | (simp only [mo_shs]; assumption) | omega | (simp; done) | contradiction) only [B_Mo_readNumber_64, B_Mo_readNumber_97, ob_i_self, ob_i_n, ob_i_k, mo_shs, Option.bind_some, ob_b2_s, mo_this, mo_g, mo_p, mo_r0, mo_r1, mo_r2, mo_r7, mo_r8, mo_r9, mo_r10, mo_r11, mo_r12, mo_r13, mo_r14, mo_r15, mo_r16, mo_r17, mo_r18, mo_r19, mo_r20, mo_r21, mo_r22, mo_r23, mo_r24, mo_r25, mo_r26, mo_r27, mo_r28, mo_r29, mo_r30, mo_r31, mo_r33, mo_r34, mo_r35, mo_r36, mo_r40, mo_r41, mo_r42, mo_r43, mo_r44, mo_r47, mo_r55, mo_r56, mo_a104, mo_a105, mo_a106, mo_a107, mo_a108, mo_a109, mo_a110, mo_a111, mo_a112, mo_a113, mo_a114, mo_a115, mo_a116, mo_a117, mo_a118, mo_a119, mo_a120, mo_a121, mo_a122, mo_a123, mo_a124, mo_a125, mo_a126, mo_a127, mo_a128, mo_a129, mo_a130, mo_a131, mo_a132, mo_a133, mo_a134, mo_a135, mo_a136, mo_a137, mo_a138, mo_a139, mo_a140, mo_a141, mo_a142, mo_a143, mo_w104, mo_w105, mo_w106, mo_w107, mo_w108, mo_w109, mo_w110, mo_w111, mo_w112, mo_w113, mo_w114, mo_w115, mo_w116, mo_w117, mo_w118, mo_w119, mo_w120, mo_w121, mo_w122, mo_w123, mo_w124, mo_w125, mo_w126, mo_w127, mo_w128, mo_w129, mo_w130, mo_w131, mo_w132, mo_w133, mo_w134, mo_w135, mo_w136, mo_w137, mo_w138, mo_w139, mo_w140, mo_w141, mo_w142, mo_w143]
      rw [if_pos (show ¬ nI 27 = (6 : Int32) by decide), if_pos (show ¬ nI 27 = (23 : Int32) by decide), if_neg (show ¬ ¬ nI 27 = (27 : Int32) from fun z => z rfl)]
  obtain ⟨x, y, hxy⟩ : ∃ x y : Int32, (num = 23 ∧ x = nI (pv V) ∧ y = ob_i t 103 58) ∨ (num = 27 ∧ x = ob_i t 103 57 ∧ y = nI (pv V)) := by
    rcases hn with z | z
    · exact ⟨_, _, Or.inl ⟨z, rfl, rfl⟩⟩
    · exact ⟨_, _, Or.inr ⟨z, rfl, rfl⟩⟩
  have g := go x y hxy
  have eb := ps_blkb_e hb
  by_cases c : psh V ∧ pv V ≤ 1023 ∧ pv V % 8 < 2
  · rw [if_pos c] at eb
    refine ⟨1, ob_setI (ob_setI t 103 57 x) 103 58 y, ?_, ?_, fun _ => ?_, f x y⟩
    · refine Eq.trans e ?_
      rw [if_pos c.1, g 1 (Or.inr rfl), if_neg (by
        rintro (z | z | z)
        · exact absurd z (by decide)
        · omega
        · omega)]
    · rw [eb]
    · rw [q.1 c.1]
      rcases hxy with ⟨n1, n2, n3⟩ | ⟨n1, n2, n3⟩
      · subst n1 n2 n3
        rw [if_pos rfl, if_pos rfl]
        exact ⟨by rw [ob_i_k (by omega), ob_i_self], ob_i_self⟩
      · subst n1 n2 n3
        rw [if_neg (by omega), if_neg (by omega)]
        exact ⟨ob_i_self, by rw [ob_i_k (by omega), ob_i_self]⟩
  · rw [if_neg c] at eb
    refine ⟨0, ob_setI (ob_setI t 103 57 x) 103 58 y, ?_, ?_, fun z => absurd rfl z, f x y⟩
    · refine Eq.trans e ?_
      by_cases cp : psh V
      · rw [if_pos cp, g 1 (Or.inr rfl), if_pos (Or.inr (by
          by_cases d : pv V ≤ 1023
          · exact Or.inr (by
              by_cases d2 : pv V % 8 < 2
              · exact absurd ⟨cp, d, d2⟩ c
              · omega)
          · exact Or.inl (by omega)))]
      · rw [if_neg cp, g 0 (Or.inl rfl), if_pos (Or.inl rfl)]
    · rw [eb]

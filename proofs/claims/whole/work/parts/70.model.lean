/-! LAYER 2, 30: the reference: 103; its rows 104 .. 143 -/
/-- its rows: field, object, kind, length -/
def mo_ar : List (Nat × Nat × Nat × Nat) := [(0, 104, 12, 1024), (1, 105, 12, 16), (2, 106, 12, 16), (7, 107, 13, 4), (8, 108, 12, 4), (9, 109, 12, 4), (10, 110, 12, 4), (11, 111, 12, 4), (12, 112, 12, 256), (13, 113, 12, 4), (14, 114, 12, 2), (15, 115, 12, 2), (16, 116, 12, 2), (17, 117, 12, 2), (18, 118, 12, 2), (19, 119, 12, 2), (20, 120, 13, 2), (21, 121, 13, 2), (22, 122, 13, 2), (23, 123, 12, 2), (24, 124, 12, 2), (25, 125, 13, 2), (26, 126, 12, 160), (27, 127, 12, 2), (28, 128, 12, 256), (29, 129, 12, 4), (30, 130, 12, 256), (31, 131, 12, 4), (33, 132, 12, 2), (34, 133, 12, 2), (35, 134, 12, 2), (36, 135, 13, 2), (40, 136, 12, 4), (41, 137, 12, 4), (42, 138, 12, 256), (43, 139, 12, 4), (44, 140, 12, 64), (47, 141, 12, 64), (55, 142, 12, 2), (56, 143, 12, 2)]
def mo_sh (t : ob_S) : Prop := ob_is t 103 11 ∧ ∀ a ∈ mo_ar, ob_r t 103 a.1 = some a.2.1 ∧ ob_is t a.2.1 a.2.2.1 ∧ ob_l t a.2.1 = a.2.2.2
theorem mo_shs {t : ob_S} {n k : Nat} {x : Int32} : mo_sh (ob_setI t n k x) = mo_sh t := rfl
theorem ob_b2_s {a g : Type} {f : a → ob_S → Option g} {x : a} {t : ob_S} : ob_b2 (some (x, t)) f = f x t := rfl
theorem mo_this {a : Type} {t : ob_S} {o : Option a} (h : mo_sh t) : ob_this 11 103 t o = o := ob_this_e h.1
theorem mo_g {t : ob_S} {k : Nat} (h : mo_sh t) : ob_gI 11 k 103 t = some (ob_i t 103 k) := ob_gI_e h.1 rfl
theorem mo_p {t : ob_S} {k : Nat} {x : Int32} (h : mo_sh t) : ob_pI 11 k 103 x t = some (ob_setI t 103 k x) := ob_pI_e h.1
theorem mo_r0 {t : ob_S} (h : mo_sh t) : ob_gR 11 0 103 t = some 104 := ob_gR_e h.1 (h.2 _ (show (0, 104, 12, 1024) ∈ mo_ar by decide)).1
theorem mo_a104 {t : ob_S} {i : Nat} (h : mo_sh t) (hi : i < 1024) : ob_aI 104 (nI i) t = some (ob_i t 104 i) := ob_aI_e (h.2 _ (show (0, 104, 12, 1024) ∈ mo_ar by decide)).2.1 (by rw [(h.2 _ (show (0, 104, 12, 1024) ∈ mo_ar by decide)).2.2]; exact hi) (by rw [(h.2 _ (show (0, 104, 12, 1024) ∈ mo_ar by decide)).2.2]; decide) rfl
theorem mo_w104 {t : ob_S} {i : Nat} {x : Int32} (h : mo_sh t) (hi : i < 1024) : ob_wI 104 (nI i) x t = some (ob_setI t 104 i x) := ob_wI_e (h.2 _ (show (0, 104, 12, 1024) ∈ mo_ar by decide)).2.1 (by rw [(h.2 _ (show (0, 104, 12, 1024) ∈ mo_ar by decide)).2.2]; exact hi) (by rw [(h.2 _ (show (0, 104, 12, 1024) ∈ mo_ar by decide)).2.2]; decide)
theorem mo_r1 {t : ob_S} (h : mo_sh t) : ob_gR 11 1 103 t = some 105 := ob_gR_e h.1 (h.2 _ (show (1, 105, 12, 16) ∈ mo_ar by decide)).1
theorem mo_a105 {t : ob_S} {i : Nat} (h : mo_sh t) (hi : i < 16) : ob_aI 105 (nI i) t = some (ob_i t 105 i) := ob_aI_e (h.2 _ (show (1, 105, 12, 16) ∈ mo_ar by decide)).2.1 (by rw [(h.2 _ (show (1, 105, 12, 16) ∈ mo_ar by decide)).2.2]; exact hi) (by rw [(h.2 _ (show (1, 105, 12, 16) ∈ mo_ar by decide)).2.2]; decide) rfl
theorem mo_w105 {t : ob_S} {i : Nat} {x : Int32} (h : mo_sh t) (hi : i < 16) : ob_wI 105 (nI i) x t = some (ob_setI t 105 i x) := ob_wI_e (h.2 _ (show (1, 105, 12, 16) ∈ mo_ar by decide)).2.1 (by rw [(h.2 _ (show (1, 105, 12, 16) ∈ mo_ar by decide)).2.2]; exact hi) (by rw [(h.2 _ (show (1, 105, 12, 16) ∈ mo_ar by decide)).2.2]; decide)
theorem mo_r2 {t : ob_S} (h : mo_sh t) : ob_gR 11 2 103 t = some 106 := ob_gR_e h.1 (h.2 _ (show (2, 106, 12, 16) ∈ mo_ar by decide)).1
theorem mo_a106 {t : ob_S} {i : Nat} (h : mo_sh t) (hi : i < 16) : ob_aI 106 (nI i) t = some (ob_i t 106 i) := ob_aI_e (h.2 _ (show (2, 106, 12, 16) ∈ mo_ar by decide)).2.1 (by rw [(h.2 _ (show (2, 106, 12, 16) ∈ mo_ar by decide)).2.2]; exact hi) (by rw [(h.2 _ (show (2, 106, 12, 16) ∈ mo_ar by decide)).2.2]; decide) rfl
theorem mo_w106 {t : ob_S} {i : Nat} {x : Int32} (h : mo_sh t) (hi : i < 16) : ob_wI 106 (nI i) x t = some (ob_setI t 106 i x) := ob_wI_e (h.2 _ (show (2, 106, 12, 16) ∈ mo_ar by decide)).2.1 (by rw [(h.2 _ (show (2, 106, 12, 16) ∈ mo_ar by decide)).2.2]; exact hi) (by rw [(h.2 _ (show (2, 106, 12, 16) ∈ mo_ar by decide)).2.2]; decide)
theorem mo_r7 {t : ob_S} (h : mo_sh t) : ob_gR 11 7 103 t = some 107 := ob_gR_e h.1 (h.2 _ (show (7, 107, 13, 4) ∈ mo_ar by decide)).1
theorem mo_a107 {t : ob_S} {i : Nat} (h : mo_sh t) (hi : i < 4) : ob_aZ 107 (nI i) t = some (ob_i t 107 i) := ob_aZ_e (h.2 _ (show (7, 107, 13, 4) ∈ mo_ar by decide)).2.1 (by rw [(h.2 _ (show (7, 107, 13, 4) ∈ mo_ar by decide)).2.2]; exact hi) (by rw [(h.2 _ (show (7, 107, 13, 4) ∈ mo_ar by decide)).2.2]; decide) rfl
theorem mo_w107 {t : ob_S} {i : Nat} {x : Int32} (h : mo_sh t) (hi : i < 4) (hx : x = 0 ∨ x = 1) : ob_wZ 107 (nI i) x t = some (ob_setI t 107 i x) := ob_wZ_e (h.2 _ (show (7, 107, 13, 4) ∈ mo_ar by decide)).2.1 (by rw [(h.2 _ (show (7, 107, 13, 4) ∈ mo_ar by decide)).2.2]; exact hi) (by rw [(h.2 _ (show (7, 107, 13, 4) ∈ mo_ar by decide)).2.2]; decide) hx
theorem mo_r8 {t : ob_S} (h : mo_sh t) : ob_gR 11 8 103 t = some 108 := ob_gR_e h.1 (h.2 _ (show (8, 108, 12, 4) ∈ mo_ar by decide)).1
theorem mo_a108 {t : ob_S} {i : Nat} (h : mo_sh t) (hi : i < 4) : ob_aI 108 (nI i) t = some (ob_i t 108 i) := ob_aI_e (h.2 _ (show (8, 108, 12, 4) ∈ mo_ar by decide)).2.1 (by rw [(h.2 _ (show (8, 108, 12, 4) ∈ mo_ar by decide)).2.2]; exact hi) (by rw [(h.2 _ (show (8, 108, 12, 4) ∈ mo_ar by decide)).2.2]; decide) rfl
theorem mo_w108 {t : ob_S} {i : Nat} {x : Int32} (h : mo_sh t) (hi : i < 4) : ob_wI 108 (nI i) x t = some (ob_setI t 108 i x) := ob_wI_e (h.2 _ (show (8, 108, 12, 4) ∈ mo_ar by decide)).2.1 (by rw [(h.2 _ (show (8, 108, 12, 4) ∈ mo_ar by decide)).2.2]; exact hi) (by rw [(h.2 _ (show (8, 108, 12, 4) ∈ mo_ar by decide)).2.2]; decide)
theorem mo_r9 {t : ob_S} (h : mo_sh t) : ob_gR 11 9 103 t = some 109 := ob_gR_e h.1 (h.2 _ (show (9, 109, 12, 4) ∈ mo_ar by decide)).1
theorem mo_a109 {t : ob_S} {i : Nat} (h : mo_sh t) (hi : i < 4) : ob_aI 109 (nI i) t = some (ob_i t 109 i) := ob_aI_e (h.2 _ (show (9, 109, 12, 4) ∈ mo_ar by decide)).2.1 (by rw [(h.2 _ (show (9, 109, 12, 4) ∈ mo_ar by decide)).2.2]; exact hi) (by rw [(h.2 _ (show (9, 109, 12, 4) ∈ mo_ar by decide)).2.2]; decide) rfl
theorem mo_w109 {t : ob_S} {i : Nat} {x : Int32} (h : mo_sh t) (hi : i < 4) : ob_wI 109 (nI i) x t = some (ob_setI t 109 i x) := ob_wI_e (h.2 _ (show (9, 109, 12, 4) ∈ mo_ar by decide)).2.1 (by rw [(h.2 _ (show (9, 109, 12, 4) ∈ mo_ar by decide)).2.2]; exact hi) (by rw [(h.2 _ (show (9, 109, 12, 4) ∈ mo_ar by decide)).2.2]; decide)
theorem mo_r10 {t : ob_S} (h : mo_sh t) : ob_gR 11 10 103 t = some 110 := ob_gR_e h.1 (h.2 _ (show (10, 110, 12, 4) ∈ mo_ar by decide)).1
theorem mo_a110 {t : ob_S} {i : Nat} (h : mo_sh t) (hi : i < 4) : ob_aI 110 (nI i) t = some (ob_i t 110 i) := ob_aI_e (h.2 _ (show (10, 110, 12, 4) ∈ mo_ar by decide)).2.1 (by rw [(h.2 _ (show (10, 110, 12, 4) ∈ mo_ar by decide)).2.2]; exact hi) (by rw [(h.2 _ (show (10, 110, 12, 4) ∈ mo_ar by decide)).2.2]; decide) rfl
theorem mo_w110 {t : ob_S} {i : Nat} {x : Int32} (h : mo_sh t) (hi : i < 4) : ob_wI 110 (nI i) x t = some (ob_setI t 110 i x) := ob_wI_e (h.2 _ (show (10, 110, 12, 4) ∈ mo_ar by decide)).2.1 (by rw [(h.2 _ (show (10, 110, 12, 4) ∈ mo_ar by decide)).2.2]; exact hi) (by rw [(h.2 _ (show (10, 110, 12, 4) ∈ mo_ar by decide)).2.2]; decide)
theorem mo_r11 {t : ob_S} (h : mo_sh t) : ob_gR 11 11 103 t = some 111 := ob_gR_e h.1 (h.2 _ (show (11, 111, 12, 4) ∈ mo_ar by decide)).1
theorem mo_a111 {t : ob_S} {i : Nat} (h : mo_sh t) (hi : i < 4) : ob_aI 111 (nI i) t = some (ob_i t 111 i) := ob_aI_e (h.2 _ (show (11, 111, 12, 4) ∈ mo_ar by decide)).2.1 (by rw [(h.2 _ (show (11, 111, 12, 4) ∈ mo_ar by decide)).2.2]; exact hi) (by rw [(h.2 _ (show (11, 111, 12, 4) ∈ mo_ar by decide)).2.2]; decide) rfl
theorem mo_w111 {t : ob_S} {i : Nat} {x : Int32} (h : mo_sh t) (hi : i < 4) : ob_wI 111 (nI i) x t = some (ob_setI t 111 i x) := ob_wI_e (h.2 _ (show (11, 111, 12, 4) ∈ mo_ar by decide)).2.1 (by rw [(h.2 _ (show (11, 111, 12, 4) ∈ mo_ar by decide)).2.2]; exact hi) (by rw [(h.2 _ (show (11, 111, 12, 4) ∈ mo_ar by decide)).2.2]; decide)
theorem mo_r12 {t : ob_S} (h : mo_sh t) : ob_gR 11 12 103 t = some 112 := ob_gR_e h.1 (h.2 _ (show (12, 112, 12, 256) ∈ mo_ar by decide)).1
theorem mo_a112 {t : ob_S} {i : Nat} (h : mo_sh t) (hi : i < 256) : ob_aI 112 (nI i) t = some (ob_i t 112 i) := ob_aI_e (h.2 _ (show (12, 112, 12, 256) ∈ mo_ar by decide)).2.1 (by rw [(h.2 _ (show (12, 112, 12, 256) ∈ mo_ar by decide)).2.2]; exact hi) (by rw [(h.2 _ (show (12, 112, 12, 256) ∈ mo_ar by decide)).2.2]; decide) rfl
theorem mo_w112 {t : ob_S} {i : Nat} {x : Int32} (h : mo_sh t) (hi : i < 256) : ob_wI 112 (nI i) x t = some (ob_setI t 112 i x) := ob_wI_e (h.2 _ (show (12, 112, 12, 256) ∈ mo_ar by decide)).2.1 (by rw [(h.2 _ (show (12, 112, 12, 256) ∈ mo_ar by decide)).2.2]; exact hi) (by rw [(h.2 _ (show (12, 112, 12, 256) ∈ mo_ar by decide)).2.2]; decide)
theorem mo_r13 {t : ob_S} (h : mo_sh t) : ob_gR 11 13 103 t = some 113 := ob_gR_e h.1 (h.2 _ (show (13, 113, 12, 4) ∈ mo_ar by decide)).1
theorem mo_a113 {t : ob_S} {i : Nat} (h : mo_sh t) (hi : i < 4) : ob_aI 113 (nI i) t = some (ob_i t 113 i) := ob_aI_e (h.2 _ (show (13, 113, 12, 4) ∈ mo_ar by decide)).2.1 (by rw [(h.2 _ (show (13, 113, 12, 4) ∈ mo_ar by decide)).2.2]; exact hi) (by rw [(h.2 _ (show (13, 113, 12, 4) ∈ mo_ar by decide)).2.2]; decide) rfl
theorem mo_w113 {t : ob_S} {i : Nat} {x : Int32} (h : mo_sh t) (hi : i < 4) : ob_wI 113 (nI i) x t = some (ob_setI t 113 i x) := ob_wI_e (h.2 _ (show (13, 113, 12, 4) ∈ mo_ar by decide)).2.1 (by rw [(h.2 _ (show (13, 113, 12, 4) ∈ mo_ar by decide)).2.2]; exact hi) (by rw [(h.2 _ (show (13, 113, 12, 4) ∈ mo_ar by decide)).2.2]; decide)
theorem mo_r14 {t : ob_S} (h : mo_sh t) : ob_gR 11 14 103 t = some 114 := ob_gR_e h.1 (h.2 _ (show (14, 114, 12, 2) ∈ mo_ar by decide)).1
theorem mo_a114 {t : ob_S} {i : Nat} (h : mo_sh t) (hi : i < 2) : ob_aI 114 (nI i) t = some (ob_i t 114 i) := ob_aI_e (h.2 _ (show (14, 114, 12, 2) ∈ mo_ar by decide)).2.1 (by rw [(h.2 _ (show (14, 114, 12, 2) ∈ mo_ar by decide)).2.2]; exact hi) (by rw [(h.2 _ (show (14, 114, 12, 2) ∈ mo_ar by decide)).2.2]; decide) rfl
theorem mo_w114 {t : ob_S} {i : Nat} {x : Int32} (h : mo_sh t) (hi : i < 2) : ob_wI 114 (nI i) x t = some (ob_setI t 114 i x) := ob_wI_e (h.2 _ (show (14, 114, 12, 2) ∈ mo_ar by decide)).2.1 (by rw [(h.2 _ (show (14, 114, 12, 2) ∈ mo_ar by decide)).2.2]; exact hi) (by rw [(h.2 _ (show (14, 114, 12, 2) ∈ mo_ar by decide)).2.2]; decide)
theorem mo_r15 {t : ob_S} (h : mo_sh t) : ob_gR 11 15 103 t = some 115 := ob_gR_e h.1 (h.2 _ (show (15, 115, 12, 2) ∈ mo_ar by decide)).1
theorem mo_a115 {t : ob_S} {i : Nat} (h : mo_sh t) (hi : i < 2) : ob_aI 115 (nI i) t = some (ob_i t 115 i) := ob_aI_e (h.2 _ (show (15, 115, 12, 2) ∈ mo_ar by decide)).2.1 (by rw [(h.2 _ (show (15, 115, 12, 2) ∈ mo_ar by decide)).2.2]; exact hi) (by rw [(h.2 _ (show (15, 115, 12, 2) ∈ mo_ar by decide)).2.2]; decide) rfl
theorem mo_w115 {t : ob_S} {i : Nat} {x : Int32} (h : mo_sh t) (hi : i < 2) : ob_wI 115 (nI i) x t = some (ob_setI t 115 i x) := ob_wI_e (h.2 _ (show (15, 115, 12, 2) ∈ mo_ar by decide)).2.1 (by rw [(h.2 _ (show (15, 115, 12, 2) ∈ mo_ar by decide)).2.2]; exact hi) (by rw [(h.2 _ (show (15, 115, 12, 2) ∈ mo_ar by decide)).2.2]; decide)
theorem mo_r16 {t : ob_S} (h : mo_sh t) : ob_gR 11 16 103 t = some 116 := ob_gR_e h.1 (h.2 _ (show (16, 116, 12, 2) ∈ mo_ar by decide)).1
theorem mo_a116 {t : ob_S} {i : Nat} (h : mo_sh t) (hi : i < 2) : ob_aI 116 (nI i) t = some (ob_i t 116 i) := ob_aI_e (h.2 _ (show (16, 116, 12, 2) ∈ mo_ar by decide)).2.1 (by rw [(h.2 _ (show (16, 116, 12, 2) ∈ mo_ar by decide)).2.2]; exact hi) (by rw [(h.2 _ (show (16, 116, 12, 2) ∈ mo_ar by decide)).2.2]; decide) rfl
theorem mo_w116 {t : ob_S} {i : Nat} {x : Int32} (h : mo_sh t) (hi : i < 2) : ob_wI 116 (nI i) x t = some (ob_setI t 116 i x) := ob_wI_e (h.2 _ (show (16, 116, 12, 2) ∈ mo_ar by decide)).2.1 (by rw [(h.2 _ (show (16, 116, 12, 2) ∈ mo_ar by decide)).2.2]; exact hi) (by rw [(h.2 _ (show (16, 116, 12, 2) ∈ mo_ar by decide)).2.2]; decide)
theorem mo_r17 {t : ob_S} (h : mo_sh t) : ob_gR 11 17 103 t = some 117 := ob_gR_e h.1 (h.2 _ (show (17, 117, 12, 2) ∈ mo_ar by decide)).1
theorem mo_a117 {t : ob_S} {i : Nat} (h : mo_sh t) (hi : i < 2) : ob_aI 117 (nI i) t = some (ob_i t 117 i) := ob_aI_e (h.2 _ (show (17, 117, 12, 2) ∈ mo_ar by decide)).2.1 (by rw [(h.2 _ (show (17, 117, 12, 2) ∈ mo_ar by decide)).2.2]; exact hi) (by rw [(h.2 _ (show (17, 117, 12, 2) ∈ mo_ar by decide)).2.2]; decide) rfl
theorem mo_w117 {t : ob_S} {i : Nat} {x : Int32} (h : mo_sh t) (hi : i < 2) : ob_wI 117 (nI i) x t = some (ob_setI t 117 i x) := ob_wI_e (h.2 _ (show (17, 117, 12, 2) ∈ mo_ar by decide)).2.1 (by rw [(h.2 _ (show (17, 117, 12, 2) ∈ mo_ar by decide)).2.2]; exact hi) (by rw [(h.2 _ (show (17, 117, 12, 2) ∈ mo_ar by decide)).2.2]; decide)
theorem mo_r18 {t : ob_S} (h : mo_sh t) : ob_gR 11 18 103 t = some 118 := ob_gR_e h.1 (h.2 _ (show (18, 118, 12, 2) ∈ mo_ar by decide)).1
theorem mo_a118 {t : ob_S} {i : Nat} (h : mo_sh t) (hi : i < 2) : ob_aI 118 (nI i) t = some (ob_i t 118 i) := ob_aI_e (h.2 _ (show (18, 118, 12, 2) ∈ mo_ar by decide)).2.1 (by rw [(h.2 _ (show (18, 118, 12, 2) ∈ mo_ar by decide)).2.2]; exact hi) (by rw [(h.2 _ (show (18, 118, 12, 2) ∈ mo_ar by decide)).2.2]; decide) rfl
theorem mo_w118 {t : ob_S} {i : Nat} {x : Int32} (h : mo_sh t) (hi : i < 2) : ob_wI 118 (nI i) x t = some (ob_setI t 118 i x) := ob_wI_e (h.2 _ (show (18, 118, 12, 2) ∈ mo_ar by decide)).2.1 (by rw [(h.2 _ (show (18, 118, 12, 2) ∈ mo_ar by decide)).2.2]; exact hi) (by rw [(h.2 _ (show (18, 118, 12, 2) ∈ mo_ar by decide)).2.2]; decide)
theorem mo_r19 {t : ob_S} (h : mo_sh t) : ob_gR 11 19 103 t = some 119 := ob_gR_e h.1 (h.2 _ (show (19, 119, 12, 2) ∈ mo_ar by decide)).1
theorem mo_a119 {t : ob_S} {i : Nat} (h : mo_sh t) (hi : i < 2) : ob_aI 119 (nI i) t = some (ob_i t 119 i) := ob_aI_e (h.2 _ (show (19, 119, 12, 2) ∈ mo_ar by decide)).2.1 (by rw [(h.2 _ (show (19, 119, 12, 2) ∈ mo_ar by decide)).2.2]; exact hi) (by rw [(h.2 _ (show (19, 119, 12, 2) ∈ mo_ar by decide)).2.2]; decide) rfl
theorem mo_w119 {t : ob_S} {i : Nat} {x : Int32} (h : mo_sh t) (hi : i < 2) : ob_wI 119 (nI i) x t = some (ob_setI t 119 i x) := ob_wI_e (h.2 _ (show (19, 119, 12, 2) ∈ mo_ar by decide)).2.1 (by rw [(h.2 _ (show (19, 119, 12, 2) ∈ mo_ar by decide)).2.2]; exact hi) (by rw [(h.2 _ (show (19, 119, 12, 2) ∈ mo_ar by decide)).2.2]; decide)
theorem mo_r20 {t : ob_S} (h : mo_sh t) : ob_gR 11 20 103 t = some 120 := ob_gR_e h.1 (h.2 _ (show (20, 120, 13, 2) ∈ mo_ar by decide)).1
theorem mo_a120 {t : ob_S} {i : Nat} (h : mo_sh t) (hi : i < 2) : ob_aZ 120 (nI i) t = some (ob_i t 120 i) := ob_aZ_e (h.2 _ (show (20, 120, 13, 2) ∈ mo_ar by decide)).2.1 (by rw [(h.2 _ (show (20, 120, 13, 2) ∈ mo_ar by decide)).2.2]; exact hi) (by rw [(h.2 _ (show (20, 120, 13, 2) ∈ mo_ar by decide)).2.2]; decide) rfl
theorem mo_w120 {t : ob_S} {i : Nat} {x : Int32} (h : mo_sh t) (hi : i < 2) (hx : x = 0 ∨ x = 1) : ob_wZ 120 (nI i) x t = some (ob_setI t 120 i x) := ob_wZ_e (h.2 _ (show (20, 120, 13, 2) ∈ mo_ar by decide)).2.1 (by rw [(h.2 _ (show (20, 120, 13, 2) ∈ mo_ar by decide)).2.2]; exact hi) (by rw [(h.2 _ (show (20, 120, 13, 2) ∈ mo_ar by decide)).2.2]; decide) hx
theorem mo_r21 {t : ob_S} (h : mo_sh t) : ob_gR 11 21 103 t = some 121 := ob_gR_e h.1 (h.2 _ (show (21, 121, 13, 2) ∈ mo_ar by decide)).1
theorem mo_a121 {t : ob_S} {i : Nat} (h : mo_sh t) (hi : i < 2) : ob_aZ 121 (nI i) t = some (ob_i t 121 i) := ob_aZ_e (h.2 _ (show (21, 121, 13, 2) ∈ mo_ar by decide)).2.1 (by rw [(h.2 _ (show (21, 121, 13, 2) ∈ mo_ar by decide)).2.2]; exact hi) (by rw [(h.2 _ (show (21, 121, 13, 2) ∈ mo_ar by decide)).2.2]; decide) rfl
theorem mo_w121 {t : ob_S} {i : Nat} {x : Int32} (h : mo_sh t) (hi : i < 2) (hx : x = 0 ∨ x = 1) : ob_wZ 121 (nI i) x t = some (ob_setI t 121 i x) := ob_wZ_e (h.2 _ (show (21, 121, 13, 2) ∈ mo_ar by decide)).2.1 (by rw [(h.2 _ (show (21, 121, 13, 2) ∈ mo_ar by decide)).2.2]; exact hi) (by rw [(h.2 _ (show (21, 121, 13, 2) ∈ mo_ar by decide)).2.2]; decide) hx
theorem mo_r22 {t : ob_S} (h : mo_sh t) : ob_gR 11 22 103 t = some 122 := ob_gR_e h.1 (h.2 _ (show (22, 122, 13, 2) ∈ mo_ar by decide)).1
theorem mo_a122 {t : ob_S} {i : Nat} (h : mo_sh t) (hi : i < 2) : ob_aZ 122 (nI i) t = some (ob_i t 122 i) := ob_aZ_e (h.2 _ (show (22, 122, 13, 2) ∈ mo_ar by decide)).2.1 (by rw [(h.2 _ (show (22, 122, 13, 2) ∈ mo_ar by decide)).2.2]; exact hi) (by rw [(h.2 _ (show (22, 122, 13, 2) ∈ mo_ar by decide)).2.2]; decide) rfl
theorem mo_w122 {t : ob_S} {i : Nat} {x : Int32} (h : mo_sh t) (hi : i < 2) (hx : x = 0 ∨ x = 1) : ob_wZ 122 (nI i) x t = some (ob_setI t 122 i x) := ob_wZ_e (h.2 _ (show (22, 122, 13, 2) ∈ mo_ar by decide)).2.1 (by rw [(h.2 _ (show (22, 122, 13, 2) ∈ mo_ar by decide)).2.2]; exact hi) (by rw [(h.2 _ (show (22, 122, 13, 2) ∈ mo_ar by decide)).2.2]; decide) hx
theorem mo_r23 {t : ob_S} (h : mo_sh t) : ob_gR 11 23 103 t = some 123 := ob_gR_e h.1 (h.2 _ (show (23, 123, 12, 2) ∈ mo_ar by decide)).1
theorem mo_a123 {t : ob_S} {i : Nat} (h : mo_sh t) (hi : i < 2) : ob_aI 123 (nI i) t = some (ob_i t 123 i) := ob_aI_e (h.2 _ (show (23, 123, 12, 2) ∈ mo_ar by decide)).2.1 (by rw [(h.2 _ (show (23, 123, 12, 2) ∈ mo_ar by decide)).2.2]; exact hi) (by rw [(h.2 _ (show (23, 123, 12, 2) ∈ mo_ar by decide)).2.2]; decide) rfl
theorem mo_w123 {t : ob_S} {i : Nat} {x : Int32} (h : mo_sh t) (hi : i < 2) : ob_wI 123 (nI i) x t = some (ob_setI t 123 i x) := ob_wI_e (h.2 _ (show (23, 123, 12, 2) ∈ mo_ar by decide)).2.1 (by rw [(h.2 _ (show (23, 123, 12, 2) ∈ mo_ar by decide)).2.2]; exact hi) (by rw [(h.2 _ (show (23, 123, 12, 2) ∈ mo_ar by decide)).2.2]; decide)
theorem mo_r24 {t : ob_S} (h : mo_sh t) : ob_gR 11 24 103 t = some 124 := ob_gR_e h.1 (h.2 _ (show (24, 124, 12, 2) ∈ mo_ar by decide)).1
theorem mo_a124 {t : ob_S} {i : Nat} (h : mo_sh t) (hi : i < 2) : ob_aI 124 (nI i) t = some (ob_i t 124 i) := ob_aI_e (h.2 _ (show (24, 124, 12, 2) ∈ mo_ar by decide)).2.1 (by rw [(h.2 _ (show (24, 124, 12, 2) ∈ mo_ar by decide)).2.2]; exact hi) (by rw [(h.2 _ (show (24, 124, 12, 2) ∈ mo_ar by decide)).2.2]; decide) rfl
theorem mo_w124 {t : ob_S} {i : Nat} {x : Int32} (h : mo_sh t) (hi : i < 2) : ob_wI 124 (nI i) x t = some (ob_setI t 124 i x) := ob_wI_e (h.2 _ (show (24, 124, 12, 2) ∈ mo_ar by decide)).2.1 (by rw [(h.2 _ (show (24, 124, 12, 2) ∈ mo_ar by decide)).2.2]; exact hi) (by rw [(h.2 _ (show (24, 124, 12, 2) ∈ mo_ar by decide)).2.2]; decide)
theorem mo_r25 {t : ob_S} (h : mo_sh t) : ob_gR 11 25 103 t = some 125 := ob_gR_e h.1 (h.2 _ (show (25, 125, 13, 2) ∈ mo_ar by decide)).1
theorem mo_a125 {t : ob_S} {i : Nat} (h : mo_sh t) (hi : i < 2) : ob_aZ 125 (nI i) t = some (ob_i t 125 i) := ob_aZ_e (h.2 _ (show (25, 125, 13, 2) ∈ mo_ar by decide)).2.1 (by rw [(h.2 _ (show (25, 125, 13, 2) ∈ mo_ar by decide)).2.2]; exact hi) (by rw [(h.2 _ (show (25, 125, 13, 2) ∈ mo_ar by decide)).2.2]; decide) rfl
theorem mo_w125 {t : ob_S} {i : Nat} {x : Int32} (h : mo_sh t) (hi : i < 2) (hx : x = 0 ∨ x = 1) : ob_wZ 125 (nI i) x t = some (ob_setI t 125 i x) := ob_wZ_e (h.2 _ (show (25, 125, 13, 2) ∈ mo_ar by decide)).2.1 (by rw [(h.2 _ (show (25, 125, 13, 2) ∈ mo_ar by decide)).2.2]; exact hi) (by rw [(h.2 _ (show (25, 125, 13, 2) ∈ mo_ar by decide)).2.2]; decide) hx
theorem mo_r26 {t : ob_S} (h : mo_sh t) : ob_gR 11 26 103 t = some 126 := ob_gR_e h.1 (h.2 _ (show (26, 126, 12, 160) ∈ mo_ar by decide)).1
theorem mo_a126 {t : ob_S} {i : Nat} (h : mo_sh t) (hi : i < 160) : ob_aI 126 (nI i) t = some (ob_i t 126 i) := ob_aI_e (h.2 _ (show (26, 126, 12, 160) ∈ mo_ar by decide)).2.1 (by rw [(h.2 _ (show (26, 126, 12, 160) ∈ mo_ar by decide)).2.2]; exact hi) (by rw [(h.2 _ (show (26, 126, 12, 160) ∈ mo_ar by decide)).2.2]; decide) rfl
theorem mo_w126 {t : ob_S} {i : Nat} {x : Int32} (h : mo_sh t) (hi : i < 160) : ob_wI 126 (nI i) x t = some (ob_setI t 126 i x) := ob_wI_e (h.2 _ (show (26, 126, 12, 160) ∈ mo_ar by decide)).2.1 (by rw [(h.2 _ (show (26, 126, 12, 160) ∈ mo_ar by decide)).2.2]; exact hi) (by rw [(h.2 _ (show (26, 126, 12, 160) ∈ mo_ar by decide)).2.2]; decide)
theorem mo_r27 {t : ob_S} (h : mo_sh t) : ob_gR 11 27 103 t = some 127 := ob_gR_e h.1 (h.2 _ (show (27, 127, 12, 2) ∈ mo_ar by decide)).1
theorem mo_a127 {t : ob_S} {i : Nat} (h : mo_sh t) (hi : i < 2) : ob_aI 127 (nI i) t = some (ob_i t 127 i) := ob_aI_e (h.2 _ (show (27, 127, 12, 2) ∈ mo_ar by decide)).2.1 (by rw [(h.2 _ (show (27, 127, 12, 2) ∈ mo_ar by decide)).2.2]; exact hi) (by rw [(h.2 _ (show (27, 127, 12, 2) ∈ mo_ar by decide)).2.2]; decide) rfl
theorem mo_w127 {t : ob_S} {i : Nat} {x : Int32} (h : mo_sh t) (hi : i < 2) : ob_wI 127 (nI i) x t = some (ob_setI t 127 i x) := ob_wI_e (h.2 _ (show (27, 127, 12, 2) ∈ mo_ar by decide)).2.1 (by rw [(h.2 _ (show (27, 127, 12, 2) ∈ mo_ar by decide)).2.2]; exact hi) (by rw [(h.2 _ (show (27, 127, 12, 2) ∈ mo_ar by decide)).2.2]; decide)
theorem mo_r28 {t : ob_S} (h : mo_sh t) : ob_gR 11 28 103 t = some 128 := ob_gR_e h.1 (h.2 _ (show (28, 128, 12, 256) ∈ mo_ar by decide)).1
theorem mo_a128 {t : ob_S} {i : Nat} (h : mo_sh t) (hi : i < 256) : ob_aI 128 (nI i) t = some (ob_i t 128 i) := ob_aI_e (h.2 _ (show (28, 128, 12, 256) ∈ mo_ar by decide)).2.1 (by rw [(h.2 _ (show (28, 128, 12, 256) ∈ mo_ar by decide)).2.2]; exact hi) (by rw [(h.2 _ (show (28, 128, 12, 256) ∈ mo_ar by decide)).2.2]; decide) rfl
theorem mo_w128 {t : ob_S} {i : Nat} {x : Int32} (h : mo_sh t) (hi : i < 256) : ob_wI 128 (nI i) x t = some (ob_setI t 128 i x) := ob_wI_e (h.2 _ (show (28, 128, 12, 256) ∈ mo_ar by decide)).2.1 (by rw [(h.2 _ (show (28, 128, 12, 256) ∈ mo_ar by decide)).2.2]; exact hi) (by rw [(h.2 _ (show (28, 128, 12, 256) ∈ mo_ar by decide)).2.2]; decide)
theorem mo_r29 {t : ob_S} (h : mo_sh t) : ob_gR 11 29 103 t = some 129 := ob_gR_e h.1 (h.2 _ (show (29, 129, 12, 4) ∈ mo_ar by decide)).1
theorem mo_a129 {t : ob_S} {i : Nat} (h : mo_sh t) (hi : i < 4) : ob_aI 129 (nI i) t = some (ob_i t 129 i) := ob_aI_e (h.2 _ (show (29, 129, 12, 4) ∈ mo_ar by decide)).2.1 (by rw [(h.2 _ (show (29, 129, 12, 4) ∈ mo_ar by decide)).2.2]; exact hi) (by rw [(h.2 _ (show (29, 129, 12, 4) ∈ mo_ar by decide)).2.2]; decide) rfl
theorem mo_w129 {t : ob_S} {i : Nat} {x : Int32} (h : mo_sh t) (hi : i < 4) : ob_wI 129 (nI i) x t = some (ob_setI t 129 i x) := ob_wI_e (h.2 _ (show (29, 129, 12, 4) ∈ mo_ar by decide)).2.1 (by rw [(h.2 _ (show (29, 129, 12, 4) ∈ mo_ar by decide)).2.2]; exact hi) (by rw [(h.2 _ (show (29, 129, 12, 4) ∈ mo_ar by decide)).2.2]; decide)
theorem mo_r30 {t : ob_S} (h : mo_sh t) : ob_gR 11 30 103 t = some 130 := ob_gR_e h.1 (h.2 _ (show (30, 130, 12, 256) ∈ mo_ar by decide)).1
theorem mo_a130 {t : ob_S} {i : Nat} (h : mo_sh t) (hi : i < 256) : ob_aI 130 (nI i) t = some (ob_i t 130 i) := ob_aI_e (h.2 _ (show (30, 130, 12, 256) ∈ mo_ar by decide)).2.1 (by rw [(h.2 _ (show (30, 130, 12, 256) ∈ mo_ar by decide)).2.2]; exact hi) (by rw [(h.2 _ (show (30, 130, 12, 256) ∈ mo_ar by decide)).2.2]; decide) rfl
theorem mo_w130 {t : ob_S} {i : Nat} {x : Int32} (h : mo_sh t) (hi : i < 256) : ob_wI 130 (nI i) x t = some (ob_setI t 130 i x) := ob_wI_e (h.2 _ (show (30, 130, 12, 256) ∈ mo_ar by decide)).2.1 (by rw [(h.2 _ (show (30, 130, 12, 256) ∈ mo_ar by decide)).2.2]; exact hi) (by rw [(h.2 _ (show (30, 130, 12, 256) ∈ mo_ar by decide)).2.2]; decide)
theorem mo_r31 {t : ob_S} (h : mo_sh t) : ob_gR 11 31 103 t = some 131 := ob_gR_e h.1 (h.2 _ (show (31, 131, 12, 4) ∈ mo_ar by decide)).1
theorem mo_a131 {t : ob_S} {i : Nat} (h : mo_sh t) (hi : i < 4) : ob_aI 131 (nI i) t = some (ob_i t 131 i) := ob_aI_e (h.2 _ (show (31, 131, 12, 4) ∈ mo_ar by decide)).2.1 (by rw [(h.2 _ (show (31, 131, 12, 4) ∈ mo_ar by decide)).2.2]; exact hi) (by rw [(h.2 _ (show (31, 131, 12, 4) ∈ mo_ar by decide)).2.2]; decide) rfl
theorem mo_w131 {t : ob_S} {i : Nat} {x : Int32} (h : mo_sh t) (hi : i < 4) : ob_wI 131 (nI i) x t = some (ob_setI t 131 i x) := ob_wI_e (h.2 _ (show (31, 131, 12, 4) ∈ mo_ar by decide)).2.1 (by rw [(h.2 _ (show (31, 131, 12, 4) ∈ mo_ar by decide)).2.2]; exact hi) (by rw [(h.2 _ (show (31, 131, 12, 4) ∈ mo_ar by decide)).2.2]; decide)
theorem mo_r33 {t : ob_S} (h : mo_sh t) : ob_gR 11 33 103 t = some 132 := ob_gR_e h.1 (h.2 _ (show (33, 132, 12, 2) ∈ mo_ar by decide)).1
theorem mo_a132 {t : ob_S} {i : Nat} (h : mo_sh t) (hi : i < 2) : ob_aI 132 (nI i) t = some (ob_i t 132 i) := ob_aI_e (h.2 _ (show (33, 132, 12, 2) ∈ mo_ar by decide)).2.1 (by rw [(h.2 _ (show (33, 132, 12, 2) ∈ mo_ar by decide)).2.2]; exact hi) (by rw [(h.2 _ (show (33, 132, 12, 2) ∈ mo_ar by decide)).2.2]; decide) rfl
theorem mo_w132 {t : ob_S} {i : Nat} {x : Int32} (h : mo_sh t) (hi : i < 2) : ob_wI 132 (nI i) x t = some (ob_setI t 132 i x) := ob_wI_e (h.2 _ (show (33, 132, 12, 2) ∈ mo_ar by decide)).2.1 (by rw [(h.2 _ (show (33, 132, 12, 2) ∈ mo_ar by decide)).2.2]; exact hi) (by rw [(h.2 _ (show (33, 132, 12, 2) ∈ mo_ar by decide)).2.2]; decide)
theorem mo_r34 {t : ob_S} (h : mo_sh t) : ob_gR 11 34 103 t = some 133 := ob_gR_e h.1 (h.2 _ (show (34, 133, 12, 2) ∈ mo_ar by decide)).1
theorem mo_a133 {t : ob_S} {i : Nat} (h : mo_sh t) (hi : i < 2) : ob_aI 133 (nI i) t = some (ob_i t 133 i) := ob_aI_e (h.2 _ (show (34, 133, 12, 2) ∈ mo_ar by decide)).2.1 (by rw [(h.2 _ (show (34, 133, 12, 2) ∈ mo_ar by decide)).2.2]; exact hi) (by rw [(h.2 _ (show (34, 133, 12, 2) ∈ mo_ar by decide)).2.2]; decide) rfl
theorem mo_w133 {t : ob_S} {i : Nat} {x : Int32} (h : mo_sh t) (hi : i < 2) : ob_wI 133 (nI i) x t = some (ob_setI t 133 i x) := ob_wI_e (h.2 _ (show (34, 133, 12, 2) ∈ mo_ar by decide)).2.1 (by rw [(h.2 _ (show (34, 133, 12, 2) ∈ mo_ar by decide)).2.2]; exact hi) (by rw [(h.2 _ (show (34, 133, 12, 2) ∈ mo_ar by decide)).2.2]; decide)
theorem mo_r35 {t : ob_S} (h : mo_sh t) : ob_gR 11 35 103 t = some 134 := ob_gR_e h.1 (h.2 _ (show (35, 134, 12, 2) ∈ mo_ar by decide)).1
theorem mo_a134 {t : ob_S} {i : Nat} (h : mo_sh t) (hi : i < 2) : ob_aI 134 (nI i) t = some (ob_i t 134 i) := ob_aI_e (h.2 _ (show (35, 134, 12, 2) ∈ mo_ar by decide)).2.1 (by rw [(h.2 _ (show (35, 134, 12, 2) ∈ mo_ar by decide)).2.2]; exact hi) (by rw [(h.2 _ (show (35, 134, 12, 2) ∈ mo_ar by decide)).2.2]; decide) rfl
theorem mo_w134 {t : ob_S} {i : Nat} {x : Int32} (h : mo_sh t) (hi : i < 2) : ob_wI 134 (nI i) x t = some (ob_setI t 134 i x) := ob_wI_e (h.2 _ (show (35, 134, 12, 2) ∈ mo_ar by decide)).2.1 (by rw [(h.2 _ (show (35, 134, 12, 2) ∈ mo_ar by decide)).2.2]; exact hi) (by rw [(h.2 _ (show (35, 134, 12, 2) ∈ mo_ar by decide)).2.2]; decide)
theorem mo_r36 {t : ob_S} (h : mo_sh t) : ob_gR 11 36 103 t = some 135 := ob_gR_e h.1 (h.2 _ (show (36, 135, 13, 2) ∈ mo_ar by decide)).1
theorem mo_a135 {t : ob_S} {i : Nat} (h : mo_sh t) (hi : i < 2) : ob_aZ 135 (nI i) t = some (ob_i t 135 i) := ob_aZ_e (h.2 _ (show (36, 135, 13, 2) ∈ mo_ar by decide)).2.1 (by rw [(h.2 _ (show (36, 135, 13, 2) ∈ mo_ar by decide)).2.2]; exact hi) (by rw [(h.2 _ (show (36, 135, 13, 2) ∈ mo_ar by decide)).2.2]; decide) rfl
theorem mo_w135 {t : ob_S} {i : Nat} {x : Int32} (h : mo_sh t) (hi : i < 2) (hx : x = 0 ∨ x = 1) : ob_wZ 135 (nI i) x t = some (ob_setI t 135 i x) := ob_wZ_e (h.2 _ (show (36, 135, 13, 2) ∈ mo_ar by decide)).2.1 (by rw [(h.2 _ (show (36, 135, 13, 2) ∈ mo_ar by decide)).2.2]; exact hi) (by rw [(h.2 _ (show (36, 135, 13, 2) ∈ mo_ar by decide)).2.2]; decide) hx
theorem mo_r40 {t : ob_S} (h : mo_sh t) : ob_gR 11 40 103 t = some 136 := ob_gR_e h.1 (h.2 _ (show (40, 136, 12, 4) ∈ mo_ar by decide)).1
theorem mo_a136 {t : ob_S} {i : Nat} (h : mo_sh t) (hi : i < 4) : ob_aI 136 (nI i) t = some (ob_i t 136 i) := ob_aI_e (h.2 _ (show (40, 136, 12, 4) ∈ mo_ar by decide)).2.1 (by rw [(h.2 _ (show (40, 136, 12, 4) ∈ mo_ar by decide)).2.2]; exact hi) (by rw [(h.2 _ (show (40, 136, 12, 4) ∈ mo_ar by decide)).2.2]; decide) rfl
theorem mo_w136 {t : ob_S} {i : Nat} {x : Int32} (h : mo_sh t) (hi : i < 4) : ob_wI 136 (nI i) x t = some (ob_setI t 136 i x) := ob_wI_e (h.2 _ (show (40, 136, 12, 4) ∈ mo_ar by decide)).2.1 (by rw [(h.2 _ (show (40, 136, 12, 4) ∈ mo_ar by decide)).2.2]; exact hi) (by rw [(h.2 _ (show (40, 136, 12, 4) ∈ mo_ar by decide)).2.2]; decide)
theorem mo_r41 {t : ob_S} (h : mo_sh t) : ob_gR 11 41 103 t = some 137 := ob_gR_e h.1 (h.2 _ (show (41, 137, 12, 4) ∈ mo_ar by decide)).1
theorem mo_a137 {t : ob_S} {i : Nat} (h : mo_sh t) (hi : i < 4) : ob_aI 137 (nI i) t = some (ob_i t 137 i) := ob_aI_e (h.2 _ (show (41, 137, 12, 4) ∈ mo_ar by decide)).2.1 (by rw [(h.2 _ (show (41, 137, 12, 4) ∈ mo_ar by decide)).2.2]; exact hi) (by rw [(h.2 _ (show (41, 137, 12, 4) ∈ mo_ar by decide)).2.2]; decide) rfl
theorem mo_w137 {t : ob_S} {i : Nat} {x : Int32} (h : mo_sh t) (hi : i < 4) : ob_wI 137 (nI i) x t = some (ob_setI t 137 i x) := ob_wI_e (h.2 _ (show (41, 137, 12, 4) ∈ mo_ar by decide)).2.1 (by rw [(h.2 _ (show (41, 137, 12, 4) ∈ mo_ar by decide)).2.2]; exact hi) (by rw [(h.2 _ (show (41, 137, 12, 4) ∈ mo_ar by decide)).2.2]; decide)
theorem mo_r42 {t : ob_S} (h : mo_sh t) : ob_gR 11 42 103 t = some 138 := ob_gR_e h.1 (h.2 _ (show (42, 138, 12, 256) ∈ mo_ar by decide)).1
theorem mo_a138 {t : ob_S} {i : Nat} (h : mo_sh t) (hi : i < 256) : ob_aI 138 (nI i) t = some (ob_i t 138 i) := ob_aI_e (h.2 _ (show (42, 138, 12, 256) ∈ mo_ar by decide)).2.1 (by rw [(h.2 _ (show (42, 138, 12, 256) ∈ mo_ar by decide)).2.2]; exact hi) (by rw [(h.2 _ (show (42, 138, 12, 256) ∈ mo_ar by decide)).2.2]; decide) rfl
theorem mo_w138 {t : ob_S} {i : Nat} {x : Int32} (h : mo_sh t) (hi : i < 256) : ob_wI 138 (nI i) x t = some (ob_setI t 138 i x) := ob_wI_e (h.2 _ (show (42, 138, 12, 256) ∈ mo_ar by decide)).2.1 (by rw [(h.2 _ (show (42, 138, 12, 256) ∈ mo_ar by decide)).2.2]; exact hi) (by rw [(h.2 _ (show (42, 138, 12, 256) ∈ mo_ar by decide)).2.2]; decide)
theorem mo_r43 {t : ob_S} (h : mo_sh t) : ob_gR 11 43 103 t = some 139 := ob_gR_e h.1 (h.2 _ (show (43, 139, 12, 4) ∈ mo_ar by decide)).1
theorem mo_a139 {t : ob_S} {i : Nat} (h : mo_sh t) (hi : i < 4) : ob_aI 139 (nI i) t = some (ob_i t 139 i) := ob_aI_e (h.2 _ (show (43, 139, 12, 4) ∈ mo_ar by decide)).2.1 (by rw [(h.2 _ (show (43, 139, 12, 4) ∈ mo_ar by decide)).2.2]; exact hi) (by rw [(h.2 _ (show (43, 139, 12, 4) ∈ mo_ar by decide)).2.2]; decide) rfl
theorem mo_w139 {t : ob_S} {i : Nat} {x : Int32} (h : mo_sh t) (hi : i < 4) : ob_wI 139 (nI i) x t = some (ob_setI t 139 i x) := ob_wI_e (h.2 _ (show (43, 139, 12, 4) ∈ mo_ar by decide)).2.1 (by rw [(h.2 _ (show (43, 139, 12, 4) ∈ mo_ar by decide)).2.2]; exact hi) (by rw [(h.2 _ (show (43, 139, 12, 4) ∈ mo_ar by decide)).2.2]; decide)
theorem mo_r44 {t : ob_S} (h : mo_sh t) : ob_gR 11 44 103 t = some 140 := ob_gR_e h.1 (h.2 _ (show (44, 140, 12, 64) ∈ mo_ar by decide)).1
theorem mo_a140 {t : ob_S} {i : Nat} (h : mo_sh t) (hi : i < 64) : ob_aI 140 (nI i) t = some (ob_i t 140 i) := ob_aI_e (h.2 _ (show (44, 140, 12, 64) ∈ mo_ar by decide)).2.1 (by rw [(h.2 _ (show (44, 140, 12, 64) ∈ mo_ar by decide)).2.2]; exact hi) (by rw [(h.2 _ (show (44, 140, 12, 64) ∈ mo_ar by decide)).2.2]; decide) rfl
theorem mo_w140 {t : ob_S} {i : Nat} {x : Int32} (h : mo_sh t) (hi : i < 64) : ob_wI 140 (nI i) x t = some (ob_setI t 140 i x) := ob_wI_e (h.2 _ (show (44, 140, 12, 64) ∈ mo_ar by decide)).2.1 (by rw [(h.2 _ (show (44, 140, 12, 64) ∈ mo_ar by decide)).2.2]; exact hi) (by rw [(h.2 _ (show (44, 140, 12, 64) ∈ mo_ar by decide)).2.2]; decide)
theorem mo_r47 {t : ob_S} (h : mo_sh t) : ob_gR 11 47 103 t = some 141 := ob_gR_e h.1 (h.2 _ (show (47, 141, 12, 64) ∈ mo_ar by decide)).1
theorem mo_a141 {t : ob_S} {i : Nat} (h : mo_sh t) (hi : i < 64) : ob_aI 141 (nI i) t = some (ob_i t 141 i) := ob_aI_e (h.2 _ (show (47, 141, 12, 64) ∈ mo_ar by decide)).2.1 (by rw [(h.2 _ (show (47, 141, 12, 64) ∈ mo_ar by decide)).2.2]; exact hi) (by rw [(h.2 _ (show (47, 141, 12, 64) ∈ mo_ar by decide)).2.2]; decide) rfl
theorem mo_w141 {t : ob_S} {i : Nat} {x : Int32} (h : mo_sh t) (hi : i < 64) : ob_wI 141 (nI i) x t = some (ob_setI t 141 i x) := ob_wI_e (h.2 _ (show (47, 141, 12, 64) ∈ mo_ar by decide)).2.1 (by rw [(h.2 _ (show (47, 141, 12, 64) ∈ mo_ar by decide)).2.2]; exact hi) (by rw [(h.2 _ (show (47, 141, 12, 64) ∈ mo_ar by decide)).2.2]; decide)
theorem mo_r55 {t : ob_S} (h : mo_sh t) : ob_gR 11 55 103 t = some 142 := ob_gR_e h.1 (h.2 _ (show (55, 142, 12, 2) ∈ mo_ar by decide)).1
theorem mo_a142 {t : ob_S} {i : Nat} (h : mo_sh t) (hi : i < 2) : ob_aI 142 (nI i) t = some (ob_i t 142 i) := ob_aI_e (h.2 _ (show (55, 142, 12, 2) ∈ mo_ar by decide)).2.1 (by rw [(h.2 _ (show (55, 142, 12, 2) ∈ mo_ar by decide)).2.2]; exact hi) (by rw [(h.2 _ (show (55, 142, 12, 2) ∈ mo_ar by decide)).2.2]; decide) rfl
theorem mo_w142 {t : ob_S} {i : Nat} {x : Int32} (h : mo_sh t) (hi : i < 2) : ob_wI 142 (nI i) x t = some (ob_setI t 142 i x) := ob_wI_e (h.2 _ (show (55, 142, 12, 2) ∈ mo_ar by decide)).2.1 (by rw [(h.2 _ (show (55, 142, 12, 2) ∈ mo_ar by decide)).2.2]; exact hi) (by rw [(h.2 _ (show (55, 142, 12, 2) ∈ mo_ar by decide)).2.2]; decide)
theorem mo_r56 {t : ob_S} (h : mo_sh t) : ob_gR 11 56 103 t = some 143 := ob_gR_e h.1 (h.2 _ (show (56, 143, 12, 2) ∈ mo_ar by decide)).1
theorem mo_a143 {t : ob_S} {i : Nat} (h : mo_sh t) (hi : i < 2) : ob_aI 143 (nI i) t = some (ob_i t 143 i) := ob_aI_e (h.2 _ (show (56, 143, 12, 2) ∈ mo_ar by decide)).2.1 (by rw [(h.2 _ (show (56, 143, 12, 2) ∈ mo_ar by decide)).2.2]; exact hi) (by rw [(h.2 _ (show (56, 143, 12, 2) ∈ mo_ar by decide)).2.2]; decide) rfl
theorem mo_w143 {t : ob_S} {i : Nat} {x : Int32} (h : mo_sh t) (hi : i < 2) : ob_wI 143 (nI i) x t = some (ob_setI t 143 i x) := ob_wI_e (h.2 _ (show (56, 143, 12, 2) ∈ mo_ar by decide)).2.1 (by rw [(h.2 _ (show (56, 143, 12, 2) ∈ mo_ar by decide)).2.2]; exact hi) (by rw [(h.2 _ (show (56, 143, 12, 2) ∈ mo_ar by decide)).2.2]; decide)
theorem mo_l0 : (0 : Int32) = nI 0 := rfl
theorem mo_l1 : (1 : Int32) = nI 1 := rfl
theorem mo_l2 : (2 : Int32) = nI 2 := rfl
theorem mo_l3 : (3 : Int32) = nI 3 := rfl
theorem mo_l4 : (4 : Int32) = nI 4 := rfl
theorem mo_l5 : (5 : Int32) = nI 5 := rfl
theorem mo_l6 : (6 : Int32) = nI 6 := rfl
theorem mo_l8 : (8 : Int32) = nI 8 := rfl
theorem mo_l11 : (11 : Int32) = nI 11 := rfl
theorem mo_l12 : (12 : Int32) = nI 12 := rfl
theorem mo_l13 : (13 : Int32) = nI 13 := rfl
theorem mo_l16 : (16 : Int32) = nI 16 := rfl
theorem mo_l23 : (23 : Int32) = nI 23 := rfl
theorem mo_l27 : (27 : Int32) = nI 27 := rfl
theorem mo_l32 : (32 : Int32) = nI 32 := rfl
theorem mo_l33 : (33 : Int32) = nI 33 := rfl
theorem mo_l64 : (64 : Int32) = nI 64 := rfl
theorem mo_l65536 : (65536 : Int32) = nI 65536 := rfl
theorem mo_l68 : (68 : Int32) = nI 68 := rfl
theorem mo_l69 : (69 : Int32) = nI 69 := rfl
theorem mo_l80 : (80 : Int32) = nI 80 := rfl
theorem mo_l95 : (95 : Int32) = nI 95 := rfl
theorem mo_l100 : (100 : Int32) = nI 100 := rfl
theorem mo_l128 : (128 : Int32) = nI 128 := rfl
theorem mo_l130 : (130 : Int32) = nI 130 := rfl
theorem mo_l132 : (132 : Int32) = nI 132 := rfl
theorem mo_l136 : (136 : Int32) = nI 136 := rfl
theorem mo_l141 : (141 : Int32) = nI 141 := rfl
theorem mo_l192 : (192 : Int32) = nI 192 := rfl
theorem mo_l255 : (255 : Int32) = nI 255 := rfl
theorem mo_l256 : (256 : Int32) = nI 256 := rfl
theorem mo_l1023 : (1023 : Int32) = nI 1023 := rfl
theorem mo_l32767 : (32767 : Int32) = nI 32767 := rfl
/-! what has changed: the places D (object, number) at most -/
def mo_F (D : Nat → Nat → Prop) (t u : ob_S) : Prop := ob_n u = ob_n t ∧ ob_k u = ob_k t ∧ ob_l u = ob_l t ∧ ob_r u = ob_r t ∧ ∀ n j, ¬ D n j → ob_i u n j = ob_i t n j
theorem mo_F.rf {D : Nat → Nat → Prop} {t : ob_S} : mo_F D t t := ⟨rfl, rfl, rfl, rfl, fun _ _ _ => rfl⟩
theorem mo_F.tr {D : Nat → Nat → Prop} {t u w : ob_S} (h1 : mo_F D t u) (h2 : mo_F D u w) : mo_F D t w := ⟨h2.1.trans h1.1, h2.2.1.trans h1.2.1, h2.2.2.1.trans h1.2.2.1, h2.2.2.2.1.trans h1.2.2.2.1, fun n j a => (h2.2.2.2.2 n j a).trans (h1.2.2.2.2 n j a)⟩
theorem mo_F.mono {D E : Nat → Nat → Prop} {t u : ob_S} (h : mo_F D t u) (hD : ∀ n j, D n j → E n j) : mo_F E t u := ⟨h.1, h.2.1, h.2.2.1, h.2.2.2.1, fun n j a => h.2.2.2.2 n j (fun z => a (hD n j z))⟩
theorem mo_F.then {D E G : Nat → Nat → Prop} {t u w : ob_S} (h1 : mo_F D t u) (h2 : mo_F E u w) (hD : ∀ n j, D n j → G n j) (hE : ∀ n j, E n j → G n j) : mo_F G t w := (h1.mono hD).tr (h2.mono hE)
theorem mo_is {t : ob_S} {n k q j : Nat} {x : Int32} : ob_i (ob_setI t n k x) q j = if q = n ∧ j = k then x else ob_i t q j := by
  by_cases c : q = n
  · subst c
    by_cases d : j = k
    · subst d
      rw [ob_i_self, if_pos ⟨rfl, rfl⟩]
    · rw [ob_i_k d, if_neg (fun z => d z.2)]
  · rw [ob_i_n c, if_neg (fun z => c z.1)]
theorem mo_F.s {D : Nat → Nat → Prop} {t u : ob_S} {n k : Nat} {x : Int32} (f : mo_F D t u) (h : D n k) : mo_F D t (ob_setI u n k x) := ⟨f.1, f.2.1, f.2.2.1, f.2.2.2.1, fun q j a => by
  rw [mo_is, if_neg (fun z => a (by rw [z.1, z.2]; exact h))]
  exact f.2.2.2.2 q j a⟩
theorem mo_F.o {D : Nat → Nat → Prop} {t : ob_S} {n k : Nat} {x : Int32} (h : D n k) : mo_F D t (ob_setI t n k x) := mo_F.rf.s h
theorem mo_sh.f {D : Nat → Nat → Prop} {t u : ob_S} (h : mo_sh t) (f : mo_F D t u) : mo_sh u := by
  obtain ⟨f1, f2, f3, f4, -⟩ := f
  exact ⟨⟨by rw [f1]; exact h.1.1, by rw [f2]; exact h.1.2⟩, fun a ha => by
    obtain ⟨q1, q2, q3⟩ := h.2 a ha
    exact ⟨by rw [f4]; exact q1, ⟨by rw [f1]; exact q2.1, by rw [f2]; exact q2.2⟩, by rw [f3]; exact q3⟩⟩
/-- what lies below the reference stays -/
theorem mo_F.fr {D : Nat → Nat → Prop} {t u : ob_S} (f : mo_F D t u) (hD : ∀ n j, D n j → 103 ≤ n) : ob_Fr (fun q => 103 ≤ q) t u := ⟨f.1, f.2.1, f.2.2.1, fun n hn => ⟨funext fun j => f.2.2.2.2 n j (fun z => hn (hD n j z)), by rw [f.2.2.2.1]⟩⟩
/-- a row's bytes from a place on -/
def mo_rw (t : ob_S) (a o : Nat) (L : List Nat) : Prop := ∀ i, i < L.length → ob_i t a (o + i) = nI (L.getD i 0)
theorem mo_rw.f {D : Nat → Nat → Prop} {t u : ob_S} {a o : Nat} {L : List Nat} (h : mo_rw t a o L) (f : mo_F D t u) (hD : ∀ j, o ≤ j → j < o + L.length → ¬ D a j) : mo_rw u a o L := fun i hi => (f.2.2.2.2 _ _ (hD _ (by omega) (by omega))).trans (h i hi)
/-- a loop that lays values, place by place -/
theorem mo_loop {α : Type} {G : Nat → Int32 → ob_S → Option α} {dst o n : Nat} {val : Nat → Int32} {t : ob_S} (step : ∀ fu i u, i < n → mo_F (fun q j => q = dst ∧ o ≤ j ∧ j < o + n) t u → G (fu + 1) (nI i) u = G fu (nI (i + 1)) (ob_setI u dst (o + i) (val i))) : ∀ fu, n < fu → ∃ g u, G fu 0 t = G (g + 1) (nI n) u ∧ mo_F (fun q j => q = dst ∧ o ≤ j ∧ j < o + n) t u ∧ ∀ i, i < n → ob_i u dst (o + i) = val i := by
  have key : ∀ d i fu u, i + d = n → d < fu → mo_F (fun q j => q = dst ∧ o ≤ j ∧ j < o + n) t u → (∀ k, k < i → ob_i u dst (o + k) = val k) → ∃ g w, G fu (nI i) u = G (g + 1) (nI n) w ∧ mo_F (fun q j => q = dst ∧ o ≤ j ∧ j < o + n) t w ∧ ∀ k, k < n → ob_i w dst (o + k) = val k := by
    intro d
    induction d with
    | zero =>
      intro i fu u hi hf f hv
      have e : i = n := by omega
      subst e
      exact ⟨fu - 1, u, by rw [show fu - 1 + 1 = fu by omega], f, hv⟩
    | succ d ih =>
      intro i fu u hi hf f hv
      obtain ⟨fu, rfl⟩ : ∃ g, fu = g + 1 := ⟨fu - 1, by omega⟩
      have f2 : mo_F (fun q j => q = dst ∧ o ≤ j ∧ j < o + n) t (ob_setI u dst (o + i) (val i)) := f.s ⟨rfl, by omega, by omega⟩
      obtain ⟨g, w, e, fw, hw⟩ := ih (i + 1) fu (ob_setI u dst (o + i) (val i)) (by omega) (by omega) f2 (fun k hk => by
        rw [mo_is]
        by_cases c : k = i
        · rw [if_pos ⟨rfl, by omega⟩, c]
        · rw [if_neg (fun z => c (by omega))]
          exact hv k (by omega))
      exact ⟨g, w, by rw [step fu i u (by omega) f, e], fw, hw⟩
  intro fu hf
  exact key n 0 fu t (by omega) hf mo_F.rf (fun k hk => absurd hk (Nat.not_lt_zero _))
theorem mo_x64 (a i : Nat) : (64 : Int32) * nI a + nI i = nI (64 * a + i) := by rw [show (64 : Int32) = nI 64 from rfl, pk_mul, nI_add]
theorem mo_x80 (a i : Nat) : (80 : Int32) * nI a + nI i = nI (80 * a + i) := by rw [show (80 : Int32) = nI 80 from rfl, pk_mul, nI_add]
theorem mo_x2 (a : Nat) : (2 : Int32) + nI a = nI (2 + a) := by rw [show (2 : Int32) = nI 2 from rfl, nI_add]
/-- the row that is written: out 140, its length 45, the last number 46 -/
def mo_Out (t : ob_S) (L : List Nat) (last : Nat) : Prop := mo_sh t ∧ ob_i t 103 45 = nI L.length ∧ ob_i t 103 46 = nI last ∧ L.length ≤ 64 ∧ mo_rw t 140 0 L ∧ ∀ x ∈ L, x < 256
abbrev dW : Nat → Nat → Prop := fun n j => n = 140 ∨ (n = 103 ∧ (j = 45 ∨ j = 46))
theorem mo_Out.f {D : Nat → Nat → Prop} {t u : ob_S} {L : List Nat} {last : Nat} (h : mo_Out t L last) (f : mo_F D t u) (hD : ∀ n j, dW n j → ¬ D n j) : mo_Out u L last := by
  obtain ⟨h1, h2, h3, h4, h5, h6⟩ := h
  exact ⟨h1.f f, (f.2.2.2.2 _ _ (hD _ _ (Or.inr ⟨rfl, Or.inl rfl⟩))).trans h2, (f.2.2.2.2 _ _ (hD _ _ (Or.inr ⟨rfl, Or.inr rfl⟩))).trans h3, h4, h5.f f (fun j _ _ => hD _ _ (Or.inl rfl)), h6⟩
theorem y_write {t : ob_S} {L : List Nat} {last : Nat} {v : Int32} (b : Nat) (h : mo_Out t L last) (hv : v = nI b) (hl : L.length < 64) (hb : b < 256) : ∃ u, X_Mo_write 103 v t = some u ∧ mo_Out u (L ++ [b]) last ∧ mo_F dW t u := by
  obtain ⟨h1, h2, h3, h4, h5, h6⟩ := h
  subst hv
  refine ⟨ob_setI (ob_setI t 140 L.length (nI b)) 103 45 (nI (L.length + 1)), ?_, ⟨h1, ?_, ?_, ?_, ?_, ?_⟩, (mo_F.o (Or.inl rfl)).s (Or.inr ⟨rfl, Or.inl rfl⟩)⟩
  · simp (disch := first | assumption | (simp only [mo_shs]; assumption) | omega | (simp; done)) only [X_Mo_write, ob_i_self, ob_i_n, ob_i_k, mo_shs, Option.bind_some, ob_b2_s, mo_this, mo_g, mo_p, mo_r0, mo_r1, mo_r2, mo_r7, mo_r8, mo_r9, mo_r10, mo_r11, mo_r12, mo_r13, mo_r14, mo_r15, mo_r16, mo_r17, mo_r18, mo_r19, mo_r20, mo_r21, mo_r22, mo_r23, mo_r24, mo_r25, mo_r26, mo_r27, mo_r28, mo_r29, mo_r30, mo_r31, mo_r33, mo_r34, mo_r35, mo_r36, mo_r40, mo_r41, mo_r42, mo_r43, mo_r44, mo_r47, mo_r55, mo_r56, mo_a104, mo_a105, mo_a106, mo_a107, mo_a108, mo_a109, mo_a110, mo_a111, mo_a112, mo_a113, mo_a114, mo_a115, mo_a116, mo_a117, mo_a118, mo_a119, mo_a120, mo_a121, mo_a122, mo_a123, mo_a124, mo_a125, mo_a126, mo_a127, mo_a128, mo_a129, mo_a130, mo_a131, mo_a132, mo_a133, mo_a134, mo_a135, mo_a136, mo_a137, mo_a138, mo_a139, mo_a140, mo_a141, mo_a142, mo_a143, mo_w104, mo_w105, mo_w106, mo_w107, mo_w108, mo_w109, mo_w110, mo_w111, mo_w112, mo_w113, mo_w114, mo_w115, mo_w116, mo_w117, mo_w118, mo_w119, mo_w120, mo_w121, mo_w122, mo_w123, mo_w124, mo_w125, mo_w126, mo_w127, mo_w128, mo_w129, mo_w130, mo_w131, mo_w132, mo_w133, mo_w134, mo_w135, mo_w136, mo_w137, mo_w138, mo_w139, mo_w140, mo_w141, mo_w142, mo_w143, h2, nI_1]
  · simp [mo_is]
  · simpa [mo_is] using h3
  · simp; omega
  · intro i hi
    simp at hi
    rw [mo_is, if_neg (by omega), mo_is]
    by_cases c : i = L.length
    · subst c
      simp [List.getD_eq_getElem?_getD]
    · rw [if_neg (by omega), h5 i (by omega), List.getD_eq_getElem?_getD, List.getD_eq_getElem?_getD, List.getElem?_append_left (by omega)]
  · intro x hx
    simp at hx
    rcases hx with hx | hx
    · exact h6 x hx
    · omega
theorem y_begin {t : ob_S} (ty code id : Nat) (h : mo_sh t) (hty : ty < 4) (hc : code < 256) (hid : id < 65536) : ∃ u, X_Mo_begin 103 (nI ty) (nI code) (nI id) t = some u ∧ mo_Out u [64 + 16 * ty + (if code = 0 then 0 else 1), code, id / 256, id % 256] 0 ∧ mo_F dW t u := by
  have f0 : mo_F dW t (ob_setI (ob_setI t 103 45 0) 103 46 0) := (mo_F.o (Or.inr ⟨rfl, Or.inl rfl⟩)).s (Or.inr ⟨rfl, Or.inr rfl⟩)
  have o0 : mo_Out (ob_setI (ob_setI t 103 45 0) 103 46 0) [] 0 := ⟨h, by simp [mo_is]; rfl, by simp [mo_is]; rfl, by simp, fun i hi => absurd hi (Nat.not_lt_zero _), fun x hx => by simp at hx⟩
  have key : ∀ c, c < 2 → ∃ u, B_Mo_begin_27 103 (nI code) (nI id) (nI c) ((64 : Int32) + ((16 : Int32) * nI ty)) 103 (ob_setI (ob_setI t 103 45 0) 103 46 0) = some u ∧ mo_Out u [64 + 16 * ty + c, code, id / 256, id % 256] 0 ∧ mo_F dW t u := by
    intro c hc
    obtain ⟨u1, e1, o1, f1⟩ := y_write (v := (64 : Int32) + ((16 : Int32) * nI ty) + nI c) (64 + 16 * ty + c) o0 (by rw [show (16 : Int32) = nI 16 from rfl, pk_mul, show (64 : Int32) = nI 64 from rfl, nI_add, nI_add]) (by simp) (by omega)
    obtain ⟨u2, e2, o2, f2⟩ := y_write (v := nI code) code o1 rfl (by simp) (by omega)
    obtain ⟨u3, e3, o3, f3⟩ := y_write (v := nI id / 256) (id / 256) o2 (pk_div (d := 256) (by omega) (by omega) (by omega)) (by simp) (by omega)
    obtain ⟨u4, e4, o4, f4⟩ := y_write (v := nI id - nI id / 256 * 256) (id % 256) o3 (pk_rem (d := 256) (by omega) (by omega) (by omega)) (by simp) (by omega)
    refine ⟨u4, ?_, o4, (((f0.tr f1).tr f2).tr f3).tr f4⟩
    rw [B_Mo_begin_27, ob_b_e e1, ob_b_e e2, ob_b_e e3, ob_b_e e4]
  simp (disch := first | assumption | (simp only [mo_shs]; assumption) | omega | (simp; done)) only [X_Mo_begin, ob_i_self, ob_i_n, ob_i_k, mo_shs, Option.bind_some, ob_b2_s, mo_this, mo_g, mo_p, mo_r0, mo_r1, mo_r2, mo_r7, mo_r8, mo_r9, mo_r10, mo_r11, mo_r12, mo_r13, mo_r14, mo_r15, mo_r16, mo_r17, mo_r18, mo_r19, mo_r20, mo_r21, mo_r22, mo_r23, mo_r24, mo_r25, mo_r26, mo_r27, mo_r28, mo_r29, mo_r30, mo_r31, mo_r33, mo_r34, mo_r35, mo_r36, mo_r40, mo_r41, mo_r42, mo_r43, mo_r44, mo_r47, mo_r55, mo_r56, mo_a104, mo_a105, mo_a106, mo_a107, mo_a108, mo_a109, mo_a110, mo_a111, mo_a112, mo_a113, mo_a114, mo_a115, mo_a116, mo_a117, mo_a118, mo_a119, mo_a120, mo_a121, mo_a122, mo_a123, mo_a124, mo_a125, mo_a126, mo_a127, mo_a128, mo_a129, mo_a130, mo_a131, mo_a132, mo_a133, mo_a134, mo_a135, mo_a136, mo_a137, mo_a138, mo_a139, mo_a140, mo_a141, mo_a142, mo_a143, mo_w104, mo_w105, mo_w106, mo_w107, mo_w108, mo_w109, mo_w110, mo_w111, mo_w112, mo_w113, mo_w114, mo_w115, mo_w116, mo_w117, mo_w118, mo_w119, mo_w120, mo_w121, mo_w122, mo_w123, mo_w124, mo_w125, mo_w126, mo_w127, mo_w128, mo_w129, mo_w130, mo_w131, mo_w132, mo_w133, mo_w134, mo_w135, mo_w136, mo_w137, mo_w138, mo_w139, mo_w140, mo_w141, mo_w142, mo_w143]
  by_cases c : code = 0
  · rw [if_neg (show ¬ ¬ nI code = 0 from fun z => z (by rw [c]; rfl)), if_pos c]
    exact key 0 (by omega)
  · rw [if_pos (nI_ne0 (by omega) (by omega)), if_neg c]
    exact key 1 (by omega)
theorem y_head {t : ob_S} {L : List Nat} {last : Nat} (num c : Nat) (h : mo_Out t L last) (hn : last ≤ num) (hn2 : num < 200) (hc : c < 13) (hl : L.length < 62) : ∃ u, X_Mo_head 103 (nI num) (nI c) t = some u ∧ mo_Out u (L ++ aw_head last num c) num ∧ mo_F dW t u := by
  have hh := h
  obtain ⟨h1, h2, h3, h4, h5, h6⟩ := h
  have f0 : mo_F dW t (ob_setI t 103 46 (nI num)) := mo_F.o (Or.inr ⟨rfl, Or.inr rfl⟩)
  have o0 : mo_Out (ob_setI t 103 46 (nI num)) L num := ⟨h1, by simpa [mo_is] using h2, by simp [mo_is], h4, fun i hi => by rw [mo_is, if_neg (by omega)]; exact h5 i hi, h6⟩
  have es : nI num - nI last = nI (num - last) := nb_sub hn
  simp (disch := first | assumption | (simp only [mo_shs]; assumption) | omega | (simp; done)) only [X_Mo_head, ob_i_self, ob_i_n, ob_i_k, mo_shs, Option.bind_some, ob_b2_s, mo_this, mo_g, mo_p, mo_r0, mo_r1, mo_r2, mo_r7, mo_r8, mo_r9, mo_r10, mo_r11, mo_r12, mo_r13, mo_r14, mo_r15, mo_r16, mo_r17, mo_r18, mo_r19, mo_r20, mo_r21, mo_r22, mo_r23, mo_r24, mo_r25, mo_r26, mo_r27, mo_r28, mo_r29, mo_r30, mo_r31, mo_r33, mo_r34, mo_r35, mo_r36, mo_r40, mo_r41, mo_r42, mo_r43, mo_r44, mo_r47, mo_r55, mo_r56, mo_a104, mo_a105, mo_a106, mo_a107, mo_a108, mo_a109, mo_a110, mo_a111, mo_a112, mo_a113, mo_a114, mo_a115, mo_a116, mo_a117, mo_a118, mo_a119, mo_a120, mo_a121, mo_a122, mo_a123, mo_a124, mo_a125, mo_a126, mo_a127, mo_a128, mo_a129, mo_a130, mo_a131, mo_a132, mo_a133, mo_a134, mo_a135, mo_a136, mo_a137, mo_a138, mo_a139, mo_a140, mo_a141, mo_a142, mo_a143, mo_w104, mo_w105, mo_w106, mo_w107, mo_w108, mo_w109, mo_w110, mo_w111, mo_w112, mo_w113, mo_w114, mo_w115, mo_w116, mo_w117, mo_w118, mo_w119, mo_w120, mo_w121, mo_w122, mo_w123, mo_w124, mo_w125, mo_w126, mo_w127, mo_w128, mo_w129, mo_w130, mo_w131, mo_w132, mo_w133, mo_w134, mo_w135, mo_w136, mo_w137, mo_w138, mo_w139, mo_w140, mo_w141, mo_w142, mo_w143, h3, es, aw_head]
  by_cases hd : num - last < 13
  · obtain ⟨u1, e1, o1, f1⟩ := y_write (v := ((16 : Int32) * nI (num - last)) + nI c) (16 * (num - last) + c) o0 (by rw [show (16 : Int32) = nI 16 from rfl, pk_mul, nI_add]) (by omega) (by omega)
    rw [if_neg (show ¬ (13 : Int32) ≤ nI (num - last) from nI_ge (b := 13) hd (by omega)), ob_b_e e1, if_pos hd]
    exact ⟨u1, rfl, o1, f0.tr f1⟩
  · obtain ⟨u1, e1, o1, f1⟩ := y_write (v := (208 : Int32) + nI c) (208 + c) o0 (by rw [show (208 : Int32) = nI 208 from rfl, nI_add]) (by omega) (by omega)
    obtain ⟨u2, e2, o2, f2⟩ := y_write (v := nI (num - last) - 13) (num - last - 13) o1 (by rw [show (13 : Int32) = nI 13 from rfl, nb_sub (by omega)]) (by simp; omega) (by omega)
    rw [if_pos (show (13 : Int32) ≤ nI (num - last) from nI_le (a := 13) (by omega) (by omega)), ob_b_e e1, ob_b_e e2, if_neg hd]
    refine ⟨u2, rfl, ?_, (f0.tr f1).tr f2⟩
    rw [show L ++ [208 + c, num - last - 13] = L ++ [208 + c] ++ [num - last - 13] by simp]
    exact o2
theorem aw_n_lt3 (v : Nat) : aw_n v < 3 := by
  unfold aw_n
  split
  · omega
  · split <;> omega
theorem y_option {t : ob_S} {L : List Nat} {last : Nat} (num v : Nat) (h : mo_Out t L last) (hn : last ≤ num) (hn2 : num < 200) (hv : v < 65536) (hl : L.length < 60) : ∃ u, X_Mo_option 103 (nI num) (nI v) t = some u ∧ mo_Out u (L ++ aw_head last num (aw_n v) ++ aw_val v) num ∧ mo_F dW t u := by
  have hh := aw_head_len last num (aw_n v)
  obtain ⟨u1, e1, o1, f1⟩ := y_head num (aw_n v) h hn hn2 (by have := aw_n_lt3 v; omega) (by omega)
  have l1 : (L ++ aw_head last num (aw_n v)).length < 62 := by rw [List.length_append]; omega
  rw [X_Mo_option, ob_this_e h.1.1]
  by_cases h0 : v = 0
  · subst h0
    refine ⟨u1, ?_, by rw [show aw_val 0 = [] from rfl, List.append_nil]; exact o1, f1⟩
    rw [if_neg (by decide), B_Mo_option_22, ob_b_e (show X_Mo_head 103 (nI num) 0 t = some u1 from e1), if_pos (by decide), B_Mo_option_41, if_pos (by decide)]
  · rw [if_pos (nI_ne0 (by omega) (by omega))]
    by_cases h256 : v < 256
    · have en : aw_n v = 1 := by rw [aw_n, if_neg h0, if_pos h256]
      obtain ⟨u2, e2, o2, f2⟩ := y_write (v := nI v - nI v / 256 * 256) v o1 (by rw [show (256 : Int32) = nI 256 from rfl, pk_rem (by omega) (by omega) (by omega), Nat.mod_eq_of_lt h256]) (by omega) h256
      rw [en] at e1
      refine ⟨u2, ?_, by rw [show aw_val v = [v] by rw [aw_val, if_neg h0, if_pos h256]]; exact o2, f1.tr f2⟩
      rw [if_neg (show ¬ (256 : Int32) ≤ nI v from nI_ge (b := 256) h256 (by omega)), B_Mo_option_22, ob_b_e (show X_Mo_head 103 (nI num) 1 t = some u1 from e1), if_pos (show nI v ≤ (255 : Int32) from nI_le (b := 255) (by omega) (by omega)), B_Mo_option_41, if_neg (nI_nle (by omega) (by omega)), ob_b_e e2]
    · have en : aw_n v = 2 := by rw [aw_n, if_neg h0, if_neg h256]
      obtain ⟨u2, e2, o2, f2⟩ := y_write (v := nI v / 256) (v / 256) o1 (pk_div (d := 256) (by omega) (by omega) (by omega)) (by omega) (by omega)
      obtain ⟨u3, e3, o3, f3⟩ := y_write (v := nI v - nI v / 256 * 256) (v % 256) o2 (pk_rem (d := 256) (by omega) (by omega) (by omega)) (by rw [List.length_append]; simp only [List.length_cons, List.length_nil]; omega) (by omega)
      rw [en] at e1
      refine ⟨u3, ?_, ?_, (f1.tr f2).tr f3⟩
      · rw [if_pos (show (256 : Int32) ≤ nI v from nI_le (a := 256) (b := v) (by omega) (by omega)), B_Mo_option_22, ob_b_e (show X_Mo_head 103 (nI num) 2 t = some u1 from e1), if_neg (show ¬ nI v ≤ (255 : Int32) from nI_ge (a := 255) (b := v) (by omega) (by omega)), ob_b_e e2, B_Mo_option_41, if_neg (nI_nle (by omega) (by omega)), ob_b_e e3]
      · rw [show aw_val v = [v / 256, v % 256] by rw [aw_val, if_neg h0, if_neg h256], show L ++ aw_head last num (aw_n v) ++ [v / 256, v % 256] = L ++ aw_head last num (aw_n v) ++ [v / 256] ++ [v % 256] by simp]
        exact o3
theorem y_path {t : ob_S} {L : List Nat} {last : Nat} (p : Nat) (hp : p < 5) (h : mo_Out t L last) (hla : last ≤ 11) (hl : L.length < 50) : ∃ u, X_Mo_path 103 (nI p) t = some u ∧ mo_Out u (L ++ aw_path last p) 11 ∧ mo_F dW t u := by
  have hh1 := aw_head_len last 11 1
  have hh2 := aw_head_len last 11 2
  obtain ⟨a1, ea1, oa1, fa1⟩ := y_head 11 1 h hla (by omega) (by omega) (by omega)
  obtain ⟨c1, ec1, oc1, fc1⟩ := y_head 11 2 h hla (by omega) (by omega) (by omega)
  have la : (L ++ aw_head last 11 1).length < 52 := by rw [List.length_append]; omega
  have lc : (L ++ aw_head last 11 2).length < 52 := by rw [List.length_append]; omega
  rw [X_Mo_path, ob_this_e h.1.1]
  rcases (show p = 0 ∨ p = 1 ∨ p = 2 ∨ p = 3 ∨ p = 4 by omega) with rfl | rfl | rfl | rfl | rfl
  · obtain ⟨a2, ea2, oa2, fa2⟩ := y_write (v := 97) 97 oa1 rfl (by omega) (by omega)
    refine ⟨a2, ?_, ?_, fa1.tr fa2⟩
    · rw [if_neg (by decide), if_pos (by decide), B_Mo_path_15, if_neg (by decide), if_pos (by decide), B_Mo_path_31, if_pos rfl, B_Mo_path_44, ob_b_e (show X_Mo_head 103 11 1 t = some a1 from ea1), if_pos rfl, if_pos (by decide), B_Mo_path_69, ob_b_e ea2, if_pos rfl, B_Mo_path_82, if_pos rfl]
    · rw [show L ++ aw_path last 0 = L ++ aw_head last 11 1 ++ [97] by simp [aw_path, pa1, pa2, tx]]
      exact oa2
  · obtain ⟨a2, ea2, oa2, fa2⟩ := y_write (v := 97) 97 oa1 rfl (by omega) (by omega)
    obtain ⟨a3, ea3, oa3, fa3⟩ := y_head 11 1 oa2 (by omega) (by omega) (by omega) (by rw [List.length_append]; simp only [List.length_cons, List.length_nil]; omega)
    obtain ⟨a4, ea4, oa4, fa4⟩ := y_write (v := 98) 98 oa3 rfl (by
      have := aw_head_len 11 11 1
      simp only [List.length_append, List.length_cons, List.length_nil] at la ⊢
      omega) (by omega)
    refine ⟨a4, ?_, ?_, ((fa1.tr fa2).tr fa3).tr fa4⟩
    · rw [if_pos (by decide), B_Mo_path_10, B_Mo_path_15, if_neg (by decide), if_pos (by decide), B_Mo_path_31, if_pos rfl, B_Mo_path_44, ob_b_e (show X_Mo_head 103 11 1 t = some a1 from ea1), if_pos rfl, if_pos (by decide), B_Mo_path_69, ob_b_e ea2, if_pos rfl, B_Mo_path_82, if_neg (by decide), ob_b_e (show X_Mo_head 103 11 1 a2 = some a3 from ea3), if_pos rfl, B_Mo_path_105, ob_b_e ea4]
    · rw [show L ++ aw_path last 1 = L ++ aw_head last 11 1 ++ [97] ++ aw_head 11 11 1 ++ [98] by simp [aw_path, pa1, pa2, tx]]
      exact oa4
  · obtain ⟨a2, ea2, oa2, fa2⟩ := y_write (v := 99) 99 oc1 rfl (by omega) (by omega)
    obtain ⟨a3, ea3, oa3, fa3⟩ := y_write (v := 99) 99 oa2 rfl (by rw [List.length_append]; simp only [List.length_cons, List.length_nil]; omega) (by omega)
    refine ⟨a3, ?_, ?_, (fc1.tr fa2).tr fa3⟩
    · rw [if_neg (by decide), if_pos (by decide), B_Mo_path_15, if_pos (by decide), B_Mo_path_26, B_Mo_path_31, if_neg (by decide), B_Mo_path_44, ob_b_e (show X_Mo_head 103 11 2 t = some c1 from ec1), if_neg (by decide), B_Mo_path_69, ob_b_e ea2, if_neg (by decide), ob_b_e ea3, B_Mo_path_82, if_pos rfl]
    · rw [show L ++ aw_path last 2 = L ++ aw_head last 11 2 ++ [99] ++ [99] by simp [aw_path, pa1, pa2, tx]]
      exact oa3
  · obtain ⟨a2, ea2, oa2, fa2⟩ := y_write (v := 99) 99 oc1 rfl (by omega) (by omega)
    obtain ⟨a3, ea3, oa3, fa3⟩ := y_write (v := 99) 99 oa2 rfl (by rw [List.length_append]; simp only [List.length_cons, List.length_nil]; omega) (by omega)
    obtain ⟨a4, ea4, oa4, fa4⟩ := y_head 11 1 oa3 (by omega) (by omega) (by omega) (by simp only [List.length_append, List.length_cons, List.length_nil] at lc ⊢; omega)
    obtain ⟨a5, ea5, oa5, fa5⟩ := y_write (v := 100) 100 oa4 rfl (by
      have := aw_head_len 11 11 1
      simp only [List.length_append, List.length_cons, List.length_nil] at lc ⊢
      omega) (by omega)
    refine ⟨a5, ?_, ?_, (((fc1.tr fa2).tr fa3).tr fa4).tr fa5⟩
    · rw [if_neg (by decide), if_neg (by decide), B_Mo_path_10, B_Mo_path_15, if_neg (by decide), if_neg (by decide), B_Mo_path_26, B_Mo_path_31, if_neg (by decide), B_Mo_path_44, ob_b_e (show X_Mo_head 103 11 2 t = some c1 from ec1), if_neg (by decide), B_Mo_path_69, ob_b_e ea2, if_neg (by decide), ob_b_e ea3, B_Mo_path_82, if_neg (by decide), ob_b_e (show X_Mo_head 103 11 1 a3 = some a4 from ea4), if_neg (by decide), B_Mo_path_105, ob_b_e ea5]
    · rw [show L ++ aw_path last 3 = L ++ aw_head last 11 2 ++ [99] ++ [99] ++ aw_head 11 11 1 ++ [100] by simp [aw_path, pa1, pa2, tx]]
      exact oa5
  · obtain ⟨a2, ea2, oa2, fa2⟩ := y_write (v := 120) 120 oa1 rfl (by omega) (by omega)
    refine ⟨a2, ?_, ?_, fa1.tr fa2⟩
    · rw [if_neg (by decide), if_pos (by decide), B_Mo_path_15, if_neg (by decide), if_pos (by decide), B_Mo_path_31, if_pos rfl, B_Mo_path_44, ob_b_e (show X_Mo_head 103 11 1 t = some a1 from ea1), if_pos rfl, if_neg (by decide), B_Mo_path_69, ob_b_e ea2, if_pos rfl, B_Mo_path_82, if_pos rfl]
    · rw [show L ++ aw_path last 4 = L ++ aw_head last 11 1 ++ [120] by simp [aw_path, pa1, pa2, tx]]
      exact oa2

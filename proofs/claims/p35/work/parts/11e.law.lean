/-! The law's helper on places, owners, lists and counts. -/
section LH3
def lnA (hd : Nat → Int32) (t w s : Nat) : Nat := sumN (lnW hd (nI t)) w + cnt (fun u => hol hd (nI t) (u * 8 + w)) s
def lnB (ow hd : Nat → Int32) (t w s : Nat) : Nat := sumN (fun u => if ow u = nI t then 0 else lnW hd (nI t) u) w + if ow w = nI t then 0 else cnt (fun u => hol hd (nI t) (u * 8 + w)) s
def fL (v : gV) (f : Nat → Int32) (w s : Nat) : Prop := ∀ t, t < 4 → f t = nI (lnA (vHd v) t w s) ∧ f (4 + t) = nI (lnB (vOw v) (vHd v) t w s)
def gO4 (v : gV) (g : Nat → Int32) (w : Nat) : Prop := ∀ t, t < 4 → g t = nI (cnt (fun u => decide (vOw v u = nI t)) w)
theorem lnA_up (hd : Nat → Int32) (t w : Nat) : lnA hd t w 4 = lnA hd t (w + 1) 0 := rfl
theorem lnB_up (ow hd : Nat → Int32) (t w : Nat) : lnB ow hd t w 4 = lnB ow hd t (w + 1) 0 := by
  have e : lnB ow hd t (w + 1) 0 = sumN (fun u => if ow u = nI t then 0 else lnW hd (nI t) u) (w + 1) + 0 := by
    unfold lnB
    split <;> rfl
  rw [e]
  rfl
theorem fL_up {v : gV} {f : Nat → Int32} {w : Nat} (h : fL v f w 4) : fL v f (w + 1) 0 := fun t ht => by
  rw [← lnA_up, ← lnB_up]
  exact h t ht
theorem fL_skip {v : gV} {f : Nat → Int32} {w s : Nat} (h : fL v f w s) (hn : vHd v (s * 8 + w) = -1) : fL v f w (s + 1) := fun t ht => by
  have e : cnt (fun u => hol (vHd v) (nI t) (u * 8 + w)) (s + 1) = cnt (fun u => hol (vHd v) (nI t) (u * 8 + w)) s := cnt_f (p := fun u => hol (vHd v) (nI t) (u * 8 + w)) (by
    show ¬ hol (vHd v) (nI t) (s * 8 + w) = true
    rw [hol_n _ hn]
    decide)
  unfold lnA lnB
  rw [e]
  exact h t ht
theorem fL_step {v : gV} {f : Nat → Int32} {w s c : Nat} (h : fL v f w s) (hc : c < 1024) (e : vHd v (s * 8 + w) = nI c) {x : Int32} (hx : x = if vOw v w = nI (c / 256) then nI 0 else nI 1) : fL v (upd (upd f (c / 256) (f (c / 256) + nI 1)) (4 + c / 256) (upd f (c / 256) (f (c / 256) + nI 1) (4 + c / 256) + x)) w (s + 1) := fun t ht => by
  have k : cnt (fun u => hol (vHd v) (nI t) (u * 8 + w)) (s + 1) = cnt (fun u => hol (vHd v) (nI t) (u * 8 + w)) s + if c / 256 = t then 1 else 0 := by
    by_cases z : c / 256 = t
    · rw [cnt_t (by rw [hol_c e hc ht]; exact decide_eq_true z), if_pos z]
    · rw [cnt_f (by rw [hol_c e hc ht, decide_eq_false z]; decide), if_neg z]
      rfl
  obtain ⟨h1, h2⟩ := h t ht
  unfold lnA at h1
  unfold lnB at h2
  unfold lnA lnB
  rw [k]
  clear k e
  have h04 : c / 256 < 4 := by omega
  generalize c / 256 = t0 at hx h04 ⊢
  refine ⟨?_, ?_⟩
  · rw [pk_un (by omega)]
    by_cases z : t = t0
    · subst z
      rw [pk_us, h1, nI_add, if_pos (rfl : t = t), Nat.add_assoc]
    · rw [pk_un z, h1, if_neg (fun q : t0 = t => z q.symm), Nat.add_zero]
  · by_cases z : t = t0
    · subst z
      rw [pk_us, pk_un (by omega), h2, hx, if_pos (rfl : t = t)]
      by_cases y : vOw v w = nI t
      · simp only [if_pos y]
        rw [nI_add]
      · simp only [if_neg y]
        rw [nI_add, Nat.add_assoc]
    · have e0 : (if t0 = t then 1 else 0) = 0 := if_neg (fun q => z q.symm)
      rw [pk_un (by omega), pk_un (by omega), h2, e0]
      rfl
theorem gO4_step {v : gV} {g : Nat → Int32} {w d : Nat} (h : gO4 v g w) (hd : d < 4) (e : vOw v w = nI d) : gO4 v (upd g d (g d + nI 1)) (w + 1) := fun t ht => by
  by_cases z : t = d
  · rw [z, pk_us, ← z, h t ht, nI_add, cnt_t (by rw [z]; exact decide_eq_true e)]
  · rw [pk_un z, h t ht, cnt_f (by rw [e]; simp only [decide_eq_true_iff]; exact fun q => z (nI_inj q (by omega) (by omega)).symm)]
def s_fits : gHS := fun av v F => ∃ B : Nat, av = [.ref 0] ∧ pV v B ∧ F (nI 1) v
def rmL_fits : Room := { frames := 10, cells := 900, slots := 5400, locals := 176 }
def pL_fits (K : gK) : List (Nat × gO) := [(0, oConst (nI 8)), (2, oFR 0 (oMNew 900 5400)), (4, oAStore 7 1), (5, oConst (nI 4)), (6, oFR 0 (oMNew 900 5400)), (8, oAStore 7 2), (9, oConst (nI 0)), (10, oFR 0 (oIStore 7 3)), (11, oFR 0 (oILoad 3)), (12, oConst (nI 8)), (14, oICmp_ge 162), (17, oALoad 2), (18, oALoad 0), (19, oILoad 3), (20, oPX 900 5400 1 6 1 p_owner), (23, oDup2), (24, oMLd), (25, oConst (nI 1)), (26, oAdd), (27, oMSt), (28, oConst (nI 0)), (29, oIStore 7 4), (31, oFR 0 (oILoad 4)), (33, oConst (nI 4)), (34, oICmp_ge 156), (37, oALoad 0), (38, oILoad 4), (40, oILoad 3), (41, oPX 900 5400 2 12 2 p_line), (44, oIStore 7 5), (46, oFR 0 (oILoad 5)), (48, oIf_lt 150), (51, oALoad 1), (52, oILoad 5), (54, oConst (nI 256)), (57, oDiv), (58, oDup2), (59, oMLd), (60, oConst (nI 1)), (61, oAdd), (62, oMSt), (63, oALoad 1), (64, oConst (nI 4)), (65, oILoad 5), (67, oConst (nI 256)), (70, oDiv), (71, oAdd), (72, oDup2), (73, oMLd), (74, oALoad 0), (75, oILoad 3), (76, oPX 900 5400 1 6 1 p_owner), (79, oILoad 5), (81, oConst (nI 256)), (84, oDiv), (85, oICmp_ne 92), (88, oConst (nI 0)), (89, oGoto 93), (92, oConst (nI 1)), (93, oAdd), (94, oMSt), (95, oILoad 5), (97, oConst (nI 256)), (100, oRem), (101, oConst (nI 4)), (102, oRem), (103, oILoad 4), (105, oICmp_ne 148), (108, oALoad 0), (109, oILoad 5), (111, oConst (nI 256)), (114, oDiv), (115, oILoad 5), (117, oConst (nI 256)), (120, oRem), (121, oPS 900 5400 16 96 3 s_find), (124, oILoad 3), (125, oICmp_ne 148), (128, oALoad 0), (129, oILoad 5), (131, oConst (nI 256)), (134, oDiv), (135, oILoad 5), (137, oConst (nI 256)), (140, oRem), (141, oPX 900 5400 2 12 2 p_ifAccessed), (144, oConst (nI 1)), (145, oICmp_eq 150), (148, oConst (nI 0)), (149, oPRetZ K 900 5400), (150, oIInc 7 4 (nI 1)), (153, oGoto 31), (156, oFR 0 (oIInc 7 3 (nI 1))), (159, oGoto 11), (162, oConst (nI 0)), (163, oFR 0 (oIStore 7 3)), (164, oConst (nI 0)), (165, oFR 0 (oIStore 7 4)), (167, oConst (nI 0)), (168, oFR 0 (oIStore 7 5)), (170, oConst (nI 0)), (171, oFR 0 (oIStore 7 6)), (173, oFR 0 (oILoad 6)), (175, oConst (nI 4)), (176, oICmp_ge 327), (179, oILoad 3), (180, oALoad 0), (181, oILoad 6), (183, oPX 900 5400 1 6 1 p_target), (186, oAdd), (187, oIStore 7 3), (188, oFR 0 (oILoad 4)), (190, oALoad 0), (191, oILoad 6), (193, oPX 900 5400 1 6 1 p_target), (196, oALoad 2), (197, oILoad 6), (199, oMLd), (200, oICmp_le 217), (203, oALoad 0), (204, oILoad 6), (206, oPX 900 5400 1 6 1 p_target), (209, oALoad 2), (210, oILoad 6), (212, oMLd), (213, oSub), (214, oGoto 218), (217, oConst (nI 0)), (218, oAdd), (219, oIStore 7 4), (221, oFR 0 (oILoad 5)), (223, oALoad 0), (224, oILoad 6), (226, oConst (nI 0)), (227, oPX 900 5400 2 12 2 p_count), (230, oALoad 0), (231, oILoad 6), (233, oConst (nI 1)), (234, oPX 900 5400 2 12 2 p_count), (237, oAdd), (238, oALoad 0), (239, oILoad 6), (241, oConst (nI 2)), (242, oPX 900 5400 2 12 2 p_count), (245, oAdd), (246, oAdd), (247, oIStore 7 5), (249, oFR 0 (oALoad 0)), (250, oILoad 6), (252, oPX 900 5400 1 6 1 p_waysOf), (255, oALoad 2), (256, oILoad 6), (258, oMLd), (259, oICmp_ne 319), (262, oALoad 0), (263, oILoad 6), (265, oConst (nI 0)), (266, oPX 900 5400 1 6 2 p_lines), (269, oALoad 1), (270, oILoad 6), (272, oMLd), (273, oICmp_ne 319), (276, oALoad 0), (277, oILoad 6), (279, oConst (nI 1)), (280, oPX 900 5400 1 6 2 p_lines), (283, oALoad 1), (284, oConst (nI 4)), (285, oILoad 6), (287, oAdd), (288, oMLd), (289, oICmp_ne 319), (292, oALoad 0), (293, oILoad 6), (295, oConst (nI 0)), (296, oPX 900 5400 2 12 2 p_utility), (299, oIf_ne 319), (302, oALoad 0), (303, oILoad 6), (305, oConst (nI 8)), (307, oPX 900 5400 2 12 2 p_utility), (310, oALoad 0), (311, oILoad 6), (313, oPS 900 5400 16 96 2 s_gains), (316, oICmp_eq 321), (319, oConst (nI 0)), (320, oPRetZ K 900 5400), (321, oIInc 7 6 (nI 1)), (324, oGoto 173), (327, oFR 0 (oILoad 3)), (328, oConst (nI 8)), (330, oICmp_ne 355), (333, oILoad 4), (335, oALoad 0), (336, oPV 900 5400 0 p_movesLeft), (339, oICmp_ne 355), (342, oILoad 5), (344, oALoad 0), (345, oPV 900 5400 0 p_accesses), (348, oICmp_ne 355), (351, oConst (nI 1)), (352, oGoto 356), (355, oConst (nI 0)), (356, oPRetZ K 900 5400)]
set_option maxRecDepth 100000 in
theorem kL_fits {X : gX} {l : Launch} (hl : l.stackTraces = false) (hM : gM X l cL_fits RL wsL_fits rmL_fits) {K : gK} (hE : gR X K 900 5400 (some .boolean)) (hA0 : gN0 X 99) (hnL : X.2.2.2.2.2.2.2.2.2.2.2.2.2.2.2.2 = 7) : okL X (pL_fits K) := by
  obtain ⟨p, l1, e, R, s, m, args, below, meth, c, D, cA, A, ag, ad0, Q, nL⟩ := X
  cases hnL
  refine ⟨ok_bipush hM dL_fits_0 rfl,
    ok_FR (ok_MNew (ok_newa0 hM hA0 (List.mem_of_getElem? (i := 1) rfl) dL_fits_2)),
    ok_astore_n hM 1 dL_fits_4 rfl,
    ok_iconst hM dL_fits_5 rfl,
    ok_FR (ok_MNew (ok_newa0 hM hA0 (List.mem_of_getElem? (i := 1) rfl) dL_fits_6)),
    ok_astore_n hM 2 dL_fits_8 rfl,
    ok_iconst hM dL_fits_9 rfl,
    ok_FR (ok_istore_n hM 3 dL_fits_10 rfl),
    ok_FR (ok_iload_n hM 3 dL_fits_11 rfl),
    ok_bipush hM dL_fits_12 rfl,
    ok_icmp_ge hM 162 dL_fits_14 (by decide),
    ok_aload_n hM 2 dL_fits_17 rfl,
    ok_aload_n hM 0 dL_fits_18 rfl,
    ok_iload_n hM 3 dL_fits_19 rfl,
    ok_PX hM (cx_owner l hl) gL_fits_X6_owner rfl rfl rfl (by decide +kernel) (by decide) dL_fits_20,
    ok_dup2 hM dL_fits_23,
    ok_MLd (ok_iald hM dL_fits_24),
    ok_iconst hM dL_fits_25 rfl,
    ok_iadd hM dL_fits_26,
    ok_MSt (ok_iast hM dL_fits_27),
    ok_iconst hM dL_fits_28 rfl,
    ok_istore hM 4 dL_fits_29,
    ok_FR (ok_iload hM 4 dL_fits_31),
    ok_iconst hM dL_fits_33 rfl,
    ok_icmp_ge hM 156 dL_fits_34 (by decide),
    ok_aload_n hM 0 dL_fits_37 rfl,
    ok_iload hM 4 dL_fits_38,
    ok_iload_n hM 3 dL_fits_40 rfl,
    ok_PX hM (cx_line l hl) gL_fits_X6_line rfl rfl rfl (by decide +kernel) (by decide) dL_fits_41,
    ok_istore hM 5 dL_fits_44,
    ok_FR (ok_iload hM 5 dL_fits_46),
    ok_if_lt hM 150 dL_fits_48 (by decide),
    ok_aload_n hM 1 dL_fits_51 rfl,
    ok_iload hM 5 dL_fits_52,
    ok_sipush hM dL_fits_54 rfl,
    ok_idiv hM dL_fits_57,
    ok_dup2 hM dL_fits_58,
    ok_MLd (ok_iald hM dL_fits_59),
    ok_iconst hM dL_fits_60 rfl,
    ok_iadd hM dL_fits_61,
    ok_MSt (ok_iast hM dL_fits_62),
    ok_aload_n hM 1 dL_fits_63 rfl,
    ok_iconst hM dL_fits_64 rfl,
    ok_iload hM 5 dL_fits_65,
    ok_sipush hM dL_fits_67 rfl,
    ok_idiv hM dL_fits_70,
    ok_iadd hM dL_fits_71,
    ok_dup2 hM dL_fits_72,
    ok_MLd (ok_iald hM dL_fits_73),
    ok_aload_n hM 0 dL_fits_74 rfl,
    ok_iload_n hM 3 dL_fits_75 rfl,
    ok_PX hM (cx_owner l hl) gL_fits_X6_owner rfl rfl rfl (by decide +kernel) (by decide) dL_fits_76,
    ok_iload hM 5 dL_fits_79,
    ok_sipush hM dL_fits_81 rfl,
    ok_idiv hM dL_fits_84,
    ok_icmp_ne hM 92 dL_fits_85 (by decide),
    ok_iconst hM dL_fits_88 rfl,
    ok_goto hM 93 dL_fits_89 (by decide),
    ok_iconst hM dL_fits_92 rfl,
    ok_iadd hM dL_fits_93,
    ok_MSt (ok_iast hM dL_fits_94),
    ok_iload hM 5 dL_fits_95,
    ok_sipush hM dL_fits_97 rfl,
    ok_irem hM dL_fits_100,
    ok_iconst hM dL_fits_101 rfl,
    ok_irem hM dL_fits_102,
    ok_iload hM 4 dL_fits_103,
    ok_icmp_ne hM 148 dL_fits_105 (by decide),
    ok_aload_n hM 0 dL_fits_108 rfl,
    ok_iload hM 5 dL_fits_109,
    ok_sipush hM dL_fits_111 rfl,
    ok_idiv hM dL_fits_114,
    ok_iload hM 5 dL_fits_115,
    ok_sipush hM dL_fits_117 rfl,
    ok_irem hM dL_fits_120,
    ok_PS hM (ctL_find l hl) gL_fits_L_find rfl rfl rfl (by decide +kernel) (by decide) dL_fits_121,
    ok_iload_n hM 3 dL_fits_124 rfl,
    ok_icmp_ne hM 148 dL_fits_125 (by decide),
    ok_aload_n hM 0 dL_fits_128 rfl,
    ok_iload hM 5 dL_fits_129,
    ok_sipush hM dL_fits_131 rfl,
    ok_idiv hM dL_fits_134,
    ok_iload hM 5 dL_fits_135,
    ok_sipush hM dL_fits_137 rfl,
    ok_irem hM dL_fits_140,
    ok_PX hM (cx_ifAccessed l hl) gL_fits_X6_ifAccessed rfl rfl rfl (by decide +kernel) (by decide) dL_fits_141,
    ok_iconst hM dL_fits_144 rfl,
    ok_icmp_eq hM 150 dL_fits_145 (by decide),
    ok_iconst hM dL_fits_148 rfl,
    ok_PRetZ hM hE dL_fits_149,
    ok_iinc hM 4 dL_fits_150 rfl,
    ok_goto hM 31 dL_fits_153 (by decide),
    ok_FR (ok_iinc hM 3 dL_fits_156 rfl),
    ok_goto hM 11 dL_fits_159 (by decide),
    ok_iconst hM dL_fits_162 rfl,
    ok_FR (ok_istore_n hM 3 dL_fits_163 rfl),
    ok_iconst hM dL_fits_164 rfl,
    ok_FR (ok_istore hM 4 dL_fits_165),
    ok_iconst hM dL_fits_167 rfl,
    ok_FR (ok_istore hM 5 dL_fits_168),
    ok_iconst hM dL_fits_170 rfl,
    ok_FR (ok_istore hM 6 dL_fits_171),
    ok_FR (ok_iload hM 6 dL_fits_173),
    ok_iconst hM dL_fits_175 rfl,
    ok_icmp_ge hM 327 dL_fits_176 (by decide),
    ok_iload_n hM 3 dL_fits_179 rfl,
    ok_aload_n hM 0 dL_fits_180 rfl,
    ok_iload hM 6 dL_fits_181,
    ok_PX hM (cx_target l hl) gL_fits_X6_target rfl rfl rfl (by decide +kernel) (by decide) dL_fits_183,
    ok_iadd hM dL_fits_186,
    ok_istore_n hM 3 dL_fits_187 rfl,
    ok_FR (ok_iload hM 4 dL_fits_188),
    ok_aload_n hM 0 dL_fits_190 rfl,
    ok_iload hM 6 dL_fits_191,
    ok_PX hM (cx_target l hl) gL_fits_X6_target rfl rfl rfl (by decide +kernel) (by decide) dL_fits_193,
    ok_aload_n hM 2 dL_fits_196 rfl,
    ok_iload hM 6 dL_fits_197,
    ok_MLd (ok_iald hM dL_fits_199),
    ok_icmp_le hM 217 dL_fits_200 (by decide),
    ok_aload_n hM 0 dL_fits_203 rfl,
    ok_iload hM 6 dL_fits_204,
    ok_PX hM (cx_target l hl) gL_fits_X6_target rfl rfl rfl (by decide +kernel) (by decide) dL_fits_206,
    ok_aload_n hM 2 dL_fits_209 rfl,
    ok_iload hM 6 dL_fits_210,
    ok_MLd (ok_iald hM dL_fits_212),
    ok_isub hM dL_fits_213,
    ok_goto hM 218 dL_fits_214 (by decide),
    ok_iconst hM dL_fits_217 rfl,
    ok_iadd hM dL_fits_218,
    ok_istore hM 4 dL_fits_219,
    ok_FR (ok_iload hM 5 dL_fits_221),
    ok_aload_n hM 0 dL_fits_223 rfl,
    ok_iload hM 6 dL_fits_224,
    ok_iconst hM dL_fits_226 rfl,
    ok_PX hM (cx_count l hl) gL_fits_X6_count rfl rfl rfl (by decide +kernel) (by decide) dL_fits_227,
    ok_aload_n hM 0 dL_fits_230 rfl,
    ok_iload hM 6 dL_fits_231,
    ok_iconst hM dL_fits_233 rfl,
    ok_PX hM (cx_count l hl) gL_fits_X6_count rfl rfl rfl (by decide +kernel) (by decide) dL_fits_234,
    ok_iadd hM dL_fits_237,
    ok_aload_n hM 0 dL_fits_238 rfl,
    ok_iload hM 6 dL_fits_239,
    ok_iconst hM dL_fits_241 rfl,
    ok_PX hM (cx_count l hl) gL_fits_X6_count rfl rfl rfl (by decide +kernel) (by decide) dL_fits_242,
    ok_iadd hM dL_fits_245,
    ok_iadd hM dL_fits_246,
    ok_istore hM 5 dL_fits_247,
    ok_FR (ok_aload_n hM 0 dL_fits_249 rfl),
    ok_iload hM 6 dL_fits_250,
    ok_PX hM (cx_waysOf l hl) gL_fits_X6_waysOf rfl rfl rfl (by decide +kernel) (by decide) dL_fits_252,
    ok_aload_n hM 2 dL_fits_255 rfl,
    ok_iload hM 6 dL_fits_256,
    ok_MLd (ok_iald hM dL_fits_258),
    ok_icmp_ne hM 319 dL_fits_259 (by decide),
    ok_aload_n hM 0 dL_fits_262 rfl,
    ok_iload hM 6 dL_fits_263,
    ok_iconst hM dL_fits_265 rfl,
    ok_PX hM (cx_lines l hl) gL_fits_X6_lines rfl rfl rfl (by decide +kernel) (by decide) dL_fits_266,
    ok_aload_n hM 1 dL_fits_269 rfl,
    ok_iload hM 6 dL_fits_270,
    ok_MLd (ok_iald hM dL_fits_272),
    ok_icmp_ne hM 319 dL_fits_273 (by decide),
    ok_aload_n hM 0 dL_fits_276 rfl,
    ok_iload hM 6 dL_fits_277,
    ok_iconst hM dL_fits_279 rfl,
    ok_PX hM (cx_lines l hl) gL_fits_X6_lines rfl rfl rfl (by decide +kernel) (by decide) dL_fits_280,
    ok_aload_n hM 1 dL_fits_283 rfl,
    ok_iconst hM dL_fits_284 rfl,
    ok_iload hM 6 dL_fits_285,
    ok_iadd hM dL_fits_287,
    ok_MLd (ok_iald hM dL_fits_288),
    ok_icmp_ne hM 319 dL_fits_289 (by decide),
    ok_aload_n hM 0 dL_fits_292 rfl,
    ok_iload hM 6 dL_fits_293,
    ok_iconst hM dL_fits_295 rfl,
    ok_PX hM (cx_utility l hl) gL_fits_X6_utility rfl rfl rfl (by decide +kernel) (by decide) dL_fits_296,
    ok_if_ne hM 319 dL_fits_299 (by decide),
    ok_aload_n hM 0 dL_fits_302 rfl,
    ok_iload hM 6 dL_fits_303,
    ok_bipush hM dL_fits_305 rfl,
    ok_PX hM (cx_utility l hl) gL_fits_X6_utility rfl rfl rfl (by decide +kernel) (by decide) dL_fits_307,
    ok_aload_n hM 0 dL_fits_310 rfl,
    ok_iload hM 6 dL_fits_311,
    ok_PS hM (ctL_gains l hl) gL_fits_L_gains rfl rfl rfl (by decide +kernel) (by decide) dL_fits_313,
    ok_icmp_eq hM 321 dL_fits_316 (by decide),
    ok_iconst hM dL_fits_319 rfl,
    ok_PRetZ hM hE dL_fits_320,
    ok_iinc hM 6 dL_fits_321 rfl,
    ok_goto hM 173 dL_fits_324 (by decide),
    ok_FR (ok_iload_n hM 3 dL_fits_327 rfl),
    ok_bipush hM dL_fits_328 rfl,
    ok_icmp_ne hM 355 dL_fits_330 (by decide),
    ok_iload hM 4 dL_fits_333,
    ok_aload_n hM 0 dL_fits_335 rfl,
    ok_PV hM (cx_movesLeft l) gL_fits_X6_movesLeft rfl rfl rfl (by decide +kernel) (by decide) dL_fits_336,
    ok_icmp_ne hM 355 dL_fits_339 (by decide),
    ok_iload hM 5 dL_fits_342,
    ok_aload_n hM 0 dL_fits_344 rfl,
    ok_PV hM (cx_accesses l) gL_fits_X6_accesses rfl rfl rfl (by decide +kernel) (by decide) dL_fits_345,
    ok_icmp_ne hM 355 dL_fits_348 (by decide),
    ok_iconst hM dL_fits_351 rfl,
    ok_goto hM 356 dL_fits_352 (by decide),
    ok_iconst hM dL_fits_355 rfl,
    ok_PRetZ hM hE dL_fits_356,
    trivial⟩
set_option maxRecDepth 100000 in
theorem ctA_fits (l : Launch) (hl : l.stackTraces = false) : Ct l yL_fits wsL_fits rmL_fits 900 5400 true (hS s_fits) := by
  refine ct_of (own := RL) (cc := cL_fits) (maxL := 7) (ret := (some .boolean)) (by decide) rfl rfl (by rintro _ _ _ ⟨v, F, hPW, ⟨B, rfl, hV, hF⟩, hK⟩; exact Nat.le_of_ble_eq_true rfl) ?_
  intro X av es K hM hE hag _ hnL hsp
  obtain ⟨v, F, hPW, ⟨B, rfl, hV, hF⟩, hK⟩ := hsp
  have hA0 : gN0 X 99 := gN0_of (fun i hi ha => hag i (by rw [PW_len hPW]; exact hi) ha)
  have hf := kL_fits hl hM hE hA0 hnL
  rw [← List.append_nil es]
  obtain ⟨hk, hS, hU, hM, hG, hC, hE⟩ := id hV
  have hH := pV_H hV
  have hmx := mx_sum hV
  have hts := tgV_sum hV
  refine g_with (X := X) 173 [0, 1, 2, 3, 4, 5, 6] (fun μ vs es k n => ∃ (i : Nat) (C : List gE) (f g : Nat → Int32), μ = 4 - i ∧ i ≤ 4 ∧ PW v C ∧ fL v f 8 0 ∧ gO4 v g 8 ∧ vs = [.ref 0, .ref 99, .ref 100, .int (nI (sumN (tgV v) i)), .int (nI (sumN (fun t => tgV v t - fOwn (vOw v) (nI t)) i)), .int (sumI (cM (vCo v)) i), .int (nI i)] ∧ es = C ++ [a8 f, a4 g] ∧ k ≤ 682 + 32 * i ∧ n ≤ 4092 + 192 * i) cut_nil (fun μ hc vs es k n hI => ?_) (fun hc173 => ?_)
  · obtain ⟨i, C, f, g, rfl, hi, hPW, hf8, hg8, rfl, rfl, hkk, hnn⟩ := hI
    refine g_cut (X := X) 221 [0, 1, 2, 3, 4, 5, 6] (fun vs es k n => ∃ (C : List gE), i < 4 ∧ PW v C ∧ vs = [.ref 0, .ref 99, .ref 100, .int (nI (sumN (tgV v) (i + 1))), .int (nI (sumN (fun t => tgV v t - fOwn (vOw v) (nI t)) (i + 1))), .int (sumI (cM (vCo v)) i), .int (nI i)] ∧ es = C ++ [a8 f, a4 g] ∧ k ≤ 682 + 32 * i + 3 ∧ n ≤ 4092 + 192 * i + 18) hc (fun vs es k n hI => ?_) (fun hc' => ?_)
    · obtain ⟨C, hi4, hPW, rfl, rfl, hkk, hnn⟩ := hI
      have e1 := hg8 i hi4
      obtain ⟨e2, e3⟩ := hf8 i hi4
      refine g_go hf hc 30 ?_
      refine ⟨⟨by omega, by omega⟩, v, C, [a8 f, a4 g], rfl, hPW, ⟨i, 0, rfl, hi4, by omega, fun C hPW => ?_⟩⟩
      refine ⟨⟨by omega, by omega⟩, v, C, [a8 f, a4 g], rfl, hPW, ⟨i, 1, rfl, hi4, by omega, fun C hPW => ?_⟩⟩
      refine ⟨⟨by omega, by omega⟩, v, C, [a8 f, a4 g], rfl, hPW, ⟨i, 2, rfl, hi4, by omega, fun C hPW => ?_⟩⟩
      refine ⟨⟨by omega, by omega⟩, v, C, [a8 f, a4 g], rfl, hPW, ⟨i, rfl, hi4, fun C hPW => ?_⟩⟩
      refine ⟨v, C, [a8 f, a4 g], 4, g, i, rfl, hPW, rfl, by omega, rfl, hi4, ?_⟩
      refine ⟨fun q => absurd e1.symm q, fun _ => ?_⟩
      refine ⟨⟨by omega, by omega⟩, v, C, [a8 f, a4 g], rfl, hPW, ⟨i, nI 0, rfl, hi4, fun C hPW => ?_⟩⟩
      refine ⟨v, C, [a8 f, a4 g], 8, f, i, rfl, hPW, rfl, by omega, rfl, by omega, ?_⟩
      refine ⟨fun q => absurd ((li_0 v i).trans e2.symm) q, fun _ => ?_⟩
      refine ⟨⟨by omega, by omega⟩, v, C, [a8 f, a4 g], rfl, hPW, ⟨i, nI 1, rfl, hi4, fun C hPW => ?_⟩⟩
      refine ⟨v, C, [a8 f, a4 g], 8, f, 4 + i, rfl, hPW, rfl, by omega, by rw [nI_add], by omega, ?_⟩
      have e4 : lnB (vOw v) (vHd v) i 8 0 = sumN (fun u => if vOw v u = nI i then 0 else lnW (vHd v) (nI i) u) 8 := by
        unfold lnB
        split <;> rfl
      rw [e4] at e3
      refine ⟨fun q => absurd ((li_1 v i (by decide)).trans e3.symm) q, fun _ => ?_⟩
      refine ⟨⟨by omega, by omega⟩, v, C, [a8 f, a4 g], rfl, hPW, ⟨i, 0, rfl, hi4, by omega, fun C hPW => ?_⟩⟩
      refine ⟨fun q => absurd rfl q, fun _ => ?_⟩
      refine ⟨⟨by omega, by omega⟩, v, C, [a8 f, a4 g], rfl, hPW, ⟨i, 8, rfl, hi4, by omega, fun C hPW => ?_⟩⟩
      refine ⟨⟨by omega, by omega⟩, v, C, [a8 f, a4 g], rfl, hPW, ⟨i, rfl, hi4, fun C hPW => ?_⟩⟩
      refine ⟨fun _ => ?_, fun q => absurd rfl q⟩
      refine ⟨4 - (i + 1), by omega, i + 1, C, f, g, rfl, by omega, hPW, hf8, hg8, ?_, rfl, by omega, by omega⟩
      rw [nI_add]
      rfl
    refine g_go hf hc' 30 ?_
    refine ⟨fun h => ?_, fun h => ?_⟩
    · have h4 : i = 4 := by
        rw [nI_leI (by decide) (by omega)] at h
        omega
      subst h4
      refine ⟨fun q => absurd (congrArg nI hts) q, fun _ => ?_⟩
      refine ⟨⟨by omega, by omega⟩, v, C, [a8 f, a4 g], rfl, hPW, ⟨rfl, hk, fun C hPW => ?_⟩⟩
      refine ⟨fun q => absurd hmx.symm q, fun _ => ?_⟩
      refine ⟨⟨by omega, by omega⟩, v, C, [a8 f, a4 g], rfl, hPW, ⟨rfl, fun C hPW => ?_⟩⟩
      refine ⟨fun q => absurd hC q, fun _ => ?_⟩
      exact ⟨⟨by omega, by omega⟩, Or.inr (by decide), v, C, [a8 f, a4 g], rfl, hPW, hK _ _ _ hF hPW⟩
    · have hi4 : i < 4 := by
        rw [nI_leI (by decide) (by omega)] at h
        omega
      have e1 := hg8 i hi4
      have t8 := tgV_le hV hi4
      have o8 := fOwn_le (vOw v) (nI i)
      refine ⟨⟨by omega, by omega⟩, v, C, [a8 f, a4 g], rfl, hPW, ⟨i, rfl, hi4, hk, fun C hPW => ?_⟩⟩
      refine ⟨⟨by omega, by omega⟩, v, C, [a8 f, a4 g], rfl, hPW, ⟨i, rfl, hi4, hk, fun C hPW => ?_⟩⟩
      refine ⟨v, C, [a8 f, a4 g], 4, g, i, rfl, hPW, rfl, by omega, rfl, hi4, ?_⟩
      have e1 : g i = nI (fOwn (vOw v) (nI i)) := e1
      rw [e1]
      refine ⟨fun q => ?_, fun q => ?_⟩
      · have q : nI (tgV v i) ≤ nI (fOwn (vOw v) (nI i)) := q
        rw [nI_leI (by omega) (by omega)] at q
        refine ⟨C, hi4, hPW, ?_, rfl, by omega, by omega⟩
        have z : tgV v i - fOwn (vOw v) (nI i) = 0 := by omega
        have z2 : sumN (fun t => tgV v t - fOwn (vOw v) (nI t)) (i + 1) = sumN (fun t => tgV v t - fOwn (vOw v) (nI t)) i + (tgV v i - fOwn (vOw v) (nI i)) := rfl
        rw [z2, z, nI_add, nI_add]
        rfl
      · have q : ¬ nI (tgV v i) ≤ nI (fOwn (vOw v) (nI i)) := q
        rw [nI_leI (by omega) (by omega)] at q
        refine ⟨⟨by omega, by omega⟩, v, C, [a8 f, a4 g], rfl, hPW, ⟨i, rfl, hi4, hk, fun C hPW => ?_⟩⟩
        refine ⟨v, C, [a8 f, a4 g], 4, g, i, rfl, hPW, rfl, by omega, rfl, hi4, ?_⟩
        refine ⟨C, hi4, hPW, ?_, rfl, by omega, by omega⟩
        have z2 : sumN (fun t => tgV v t - fOwn (vOw v) (nI t)) (i + 1) = sumN (fun t => tgV v t - fOwn (vOw v) (nI t)) i + (tgV v i - fOwn (vOw v) (nI i)) := rfl
        have z4 : fOwn (vOw v) (nI i) ≤ tgV v i := by omega
        have z3 : nI (tgt (lfv v) (vGa v) i) - g i = nI (tgV v i - fOwn (vOw v) (nI i)) := by
          show nI (tgV v i) - g i = _
          rw [e1, pk_sub z4]
        rw [z2, z3, nI_add, nI_add]
        rfl
  refine g_with (X := X) 11 [0, 1, 2, 3] (fun μ vs es k n => ∃ (w : Nat) (C : List gE) (f g : Nat → Int32), μ = 8 - w ∧ w ≤ 8 ∧ PW v C ∧ fL v f w 0 ∧ gO4 v g w ∧ vs = [.ref 0, .ref 99, .ref 100, .int (nI w)] ∧ es = C ++ [a8 f, a4 g] ∧ k ≤ 2 + 85 * w ∧ n ≤ 12 + 510 * w) hc173 (fun μ hc vs es k n hI => ?_) (fun hc11 => ?_)
  · obtain ⟨w, C, f, g, rfl, hw, hPW, hfl, hgo, rfl, rfl, hkk, hnn⟩ := hI
    refine g_with (X := X) 31 [0, 1, 2, 3, 4] (fun μ vs es k n => ∃ (s : Nat) (C : List gE) (f g : Nat → Int32), μ = 4 - s ∧ s ≤ 4 ∧ w < 8 ∧ PW v C ∧ fL v f w s ∧ gO4 v g (w + 1) ∧ vs = [.ref 0, .ref 99, .ref 100, .int (nI w), .int (nI s)] ∧ es = C ++ [a8 f, a4 g] ∧ k ≤ 3 + 85 * w + 21 * s ∧ n ≤ 18 + 510 * w + 126 * s) hc (fun μ hc2 vs es k n hI => ?_) (fun hc31 => ?_)
    · obtain ⟨s, C, f, g, rfl, hs, hw8, hPW, hfl, hgo, rfl, rfl, hkk, hnn⟩ := hI
      refine g_cut (X := X) 95 [0, 1, 2, 3, 4, 5] (fun vs es k n => ∃ (c : Nat) (C : List gE) (f : Nat → Int32), s < 4 ∧ c < 1024 ∧ vHd v (s * 8 + w) = nI c ∧ PW v C ∧ fL v f w (s + 1) ∧ vs = [.ref 0, .ref 99, .ref 100, .int (nI w), .int (nI s), .int (nI c)] ∧ es = C ++ [a8 f, a4 g] ∧ k ≤ 3 + 85 * w + 21 * s + 3 ∧ n ≤ 18 + 510 * w + 126 * s + 18) hc2 (fun vs es k n hI => ?_) (fun hc' => ?_)
      · obtain ⟨c, C, f, hs4, hc9, hcv, hPW, hfl, rfl, rfl, hkk, hnn⟩ := hI
        have hset : c % 4 = s := by
          have := hS _ (by omega) c hc9 hcv
          omega
        have hdv : nI c / nI 256 = nI (c / 256) := nI_div256 hc9
        have hrm : nI c - nI c / nI 256 * nI 256 = nI (c % 256) := pk_rem (by omega) (by decide) (by decide)
        have hrm4 : nI (c % 256) - nI (c % 256) / nI 4 * nI 4 = nI (c % 256 % 4) := pk_rem (by omega) (by decide) (by decide)
        have hln : vHd v (s * 8 + w) = lnN (c / 256) (c % 256) := by
          rw [hcv, lnN_eq]
          exact congrArg nI (by omega)
        have hft := fF_line hS hU (p := s * 8 + w) (by omega) (show c / 256 < 4 by omega) (show c % 256 < 256 by omega) hln
        have hff : fF (vHd v) (lnN (c / 256) (c % 256)) (c % 256 % 4 * 8) = w := by
          rw [hft.2]
          omega
        have hfd : fdR (vHd v) (c / 256) (c % 256) = nI w := by
          unfold fdR
          rw [hff, if_pos hw8]
        have har : acR v (c / 256) (c % 256) = 1 := (acR_fF v _ _).1.mpr (by rw [hff]; exact hw8)
        refine g_go hf hc2 30 ?_
        refine ⟨by decide, ?_⟩
        refine ⟨by decide, ?_⟩
        rw [hrm, hrm4]
        refine ⟨fun q => absurd (congrArg nI (show c % 256 % 4 = s by omega)) q, fun _ => ?_⟩
        refine ⟨by decide, ?_⟩
        refine ⟨by decide, ?_⟩
        refine ⟨⟨by omega, by omega⟩, v, C, [a8 f, a4 g], rfl, hPW, ⟨c / 256, c % 256, by rw [hdv, ← hrm, hdv], by omega, by omega, hU, fun C hPW => ?_⟩⟩
        refine ⟨fun q => absurd hfd q, fun _ => ?_⟩
        refine ⟨by decide, ?_⟩
        refine ⟨by decide, ?_⟩
        refine ⟨⟨by omega, by omega⟩, v, C, [a8 f, a4 g], rfl, hPW, ⟨c / 256, c % 256, by rw [hdv, ← hrm, hdv], by omega, by omega, fun C hPW => ?_⟩⟩
        refine ⟨fun _ => ?_, fun q => absurd (congrArg nI har) q⟩
        exact ⟨4 - (s + 1), by omega, s + 1, C, f, g, rfl, by omega, hw8, hPW, hfl, hgo, by rw [nI_add], rfl, by omega, by omega⟩
      refine g_go hf hc' 30 ?_
      refine ⟨fun h => ?_, fun h => ?_⟩
      · have h4 : s = 4 := by
          rw [nI_leI (by decide) (by omega)] at h
          omega
        subst h4
        exact ⟨8 - (w + 1), by omega, w + 1, C, f, g, rfl, by omega, hPW, fL_up hfl, hgo, by rw [nI_add], rfl, by omega, by omega⟩
      · have hs4 : s < 4 := by
          rw [nI_leI (by decide) (by omega)] at h
          omega
        refine ⟨⟨by omega, by omega⟩, v, C, [a8 f, a4 g], rfl, hPW, ⟨s, w, rfl, hs4, hw8, fun C hPW => ?_⟩⟩
        rcases hH (s * 8 + w) (by omega) with hn | ⟨c, hc9, hcv⟩
        · rw [hn]
          refine ⟨fun _ => ?_, fun q => absurd (by decide) q⟩
          exact ⟨4 - (s + 1), by omega, s + 1, C, f, g, rfl, by omega, hw8, hPW, fL_skip hfl hn, hgo, by rw [nI_add], rfl, by omega, by omega⟩
        · rw [hcv]
          have hdv : nI c / nI 256 = nI (c / 256) := nI_div256 hc9
          refine ⟨fun q => absurd q (nI_pos (by omega)), fun _ => ?_⟩
          refine ⟨by decide, ?_⟩
          refine ⟨v, C, [a8 f, a4 g], 8, f, c / 256, rfl, hPW, rfl, by omega, hdv, by omega, ?_⟩
          refine ⟨v, C, [a8 f, a4 g], 8, f, c / 256, rfl, hPW, rfl, by omega, hdv, by omega, ?_⟩
          refine ⟨by decide, ?_⟩
          refine ⟨v, C, [a8 (upd f (c / 256) (f (c / 256) + nI 1)), a4 g], 8, upd f (c / 256) (f (c / 256) + nI 1), 4 + c / 256, rfl, hPW, rfl, by omega, by rw [hdv, nI_add], by omega, ?_⟩
          refine ⟨⟨by omega, by omega⟩, v, C, [a8 (upd f (c / 256) (f (c / 256) + nI 1)), a4 g], rfl, hPW, ⟨w, rfl, hw8, fun C hPW => ?_⟩⟩
          refine ⟨by decide, ?_⟩
          rw [hdv]
          refine ⟨fun q => ?_, fun q => ?_⟩
          · refine ⟨v, C, [a8 (upd f (c / 256) (f (c / 256) + nI 1)), a4 g], 8, upd f (c / 256) (f (c / 256) + nI 1), 4 + c / 256, rfl, hPW, rfl, by omega, by rw [nI_add], by omega, ?_⟩
            exact ⟨c, C, _, hs4, hc9, (by first | exact hcv | rfl), hPW, fL_step hfl hc9 hcv (if_neg q).symm, rfl, rfl, by omega, by omega⟩
          · refine ⟨v, C, [a8 (upd f (c / 256) (f (c / 256) + nI 1)), a4 g], 8, upd f (c / 256) (f (c / 256) + nI 1), 4 + c / 256, rfl, hPW, rfl, by omega, by rw [nI_add], by omega, ?_⟩
            exact ⟨c, C, _, hs4, hc9, (by first | exact hcv | rfl), hPW, fL_step hfl hc9 hcv (if_pos q).symm, rfl, rfl, by omega, by omega⟩
    refine g_go hf hc31 30 ?_
    refine ⟨fun h => ?_, fun h => ?_⟩
    · have h8 : w = 8 := by
        rw [nI_leI (by decide) (by omega)] at h
        omega
      subst h8
      exact ⟨4, 0, C, f, g, rfl, by omega, hPW, hfl, hgo, rfl, rfl, by omega, by omega⟩
    · have hw8 : w < 8 := by
        rw [nI_leI (by decide) (by omega)] at h
        omega
      obtain ⟨d, hd, hdo⟩ := hk.1 w hw8
      refine ⟨⟨by omega, by omega⟩, v, C, [a8 f, a4 g], rfl, hPW, ⟨w, rfl, hw8, fun C hPW => ?_⟩⟩
      rw [hdo]
      refine ⟨v, C, [a8 f, a4 g], 4, g, d, rfl, hPW, rfl, by omega, rfl, hd, ?_⟩
      refine ⟨v, C, [a8 f, a4 g], 4, g, d, rfl, hPW, rfl, by omega, rfl, hd, ?_⟩
      exact ⟨4, 0, C, f, upd g d (g d + nI 1), rfl, by omega, hw8, hPW, hfl, gO4_step hgo hd hdo, rfl, rfl, by omega, by omega⟩
  · refine wr_ok hf hc11 30 0 _ _ _ _ _ ?_
    refine ⟨v, es, [], 8, 99, rfl, hPW, rfl, rfl, by omega, by omega, by omega, ?_⟩
    refine ⟨v, es, [a8 (fun _ => 0)], 4, 100, rfl, hPW, rfl, rfl, by omega, by omega, by omega, ?_⟩
    refine ⟨8, 0, es, fun _ => 0, fun _ => 0, rfl, by omega, hPW, fun t ht => ⟨rfl, ?_⟩, fun t ht => rfl, rfl, rfl, by omega, by omega⟩
    unfold lnB
    split <;> rfl
theorem ctL_fits (l : Launch) (hl : l.stackTraces = false) : Ct l yL_fits wsL_fits rmL_fits 900 5400 false (hS s_fits) := ct_al (ctA_fits l hl)
end LH3

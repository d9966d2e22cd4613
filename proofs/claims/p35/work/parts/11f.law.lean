/-! The law's helper on an access. -/
section LH4
def s_accesses : gHS := fun av v F => ∃ t a B : Nat, av = [.ref 0, .int (nI t), .int (nI a)] ∧ t < 4 ∧ a < 256 ∧ pV v B ∧ F (nI 1) (acB v t a)
/-- the position, 9 where the set isn't sampled -/
def acP (v : gV) (t a : Nat) : Nat := if a % 2 = 0 then psN (vAd v) (mqI t a) a else 9
def acG (v : gV) (t a : Nat) : Int32 := if acP v t a < 8 then vGa v (t * 8 + acP v t a) else nI 0
def acF (v : gV) (t a : Nat) : Int32 := if a % 2 = 0 then vAd v (mqI t a * 8 + 0) else -1
def acS (a : Nat) : Int32 := if a % 2 = 0 then nI 1 else nI 0
/-- what goes, and its tenant's count before -/
def acO (v : gV) (t a : Nat) (go : Int32) : Prop := vcR v t a = -1 ∨ ∃ t2 a2, t2 < 4 ∧ a2 < 256 ∧ vcR v t a = nI (t2 * 256 + a2) ∧ acR v t a = 0 ∧ vCo (acB v t a) (t2 * 4 + 3) = vCo v (t2 * 4 + 3) + nI 1 ∧ fdR (vHd (acB v t a)) t2 a2 < 0 ∧ go = vCo v (t2 * 4 + 3)
theorem rem2 {a : Nat} (h : a < 256) : nI a - nI a / nI 2 * nI 2 = nI (a % 2) := pk_rem (by omega) (by decide) (by decide)
theorem acP_le (v : gV) (t a : Nat) : acP v t a ≤ 9 := by
  unfold acP
  have := psN_le (vAd v) (mqI t a) a
  split <;> omega
theorem ln_div {t2 a2 : Nat} (h2 : t2 < 4) (h : a2 < 256) : nI (t2 * 256 + a2) / nI 256 = nI t2 := by
  rw [nI_div256 (by omega)]
  exact congrArg nI (by omega)
theorem ln_rem {t2 a2 : Nat} (h2 : t2 < 4) (h : a2 < 256) : nI (t2 * 256 + a2) - nI (t2 * 256 + a2) / nI 256 * nI 256 = nI a2 := by
  have e : nI (t2 * 256 + a2) - nI (t2 * 256 + a2) / nI 256 * nI 256 = nI ((t2 * 256 + a2) % 256) := pk_rem (by omega) (by decide) (by decide)
  rw [e]
  exact congrArg nI (by omega)
def rmL_accesses : Room := { frames := 10, cells := 200, slots := 1200, locals := 177 }
def pL_accesses (K : gK) : List (Nat × gO) := [(0, oFR 0 (oILoad 2)), (1, oConst (nI 2)), (2, oRem), (3, oIf_ne 10), (6, oConst (nI 1)), (7, oGoto 11), (10, oConst (nI 0)), (11, oIStore 17 3), (12, oFR 0 (oALoad 0)), (13, oILoad 1), (14, oILoad 2), (15, oPX 200 1200 2 12 2 p_ifAccessed), (18, oIStore 17 4), (20, oFR 0 (oALoad 0)), (21, oILoad 1), (22, oILoad 2), (23, oPX 200 1200 2 12 2 p_victim), (26, oIStore 17 5), (28, oFR 0 (oALoad 0)), (29, oILoad 1), (30, oILoad 2), (31, oPS 200 1200 16 96 3 s_find), (34, oIStore 17 6), (36, oFR 0 (oILoad 3)), (37, oIf_eq 49), (40, oALoad 0), (41, oILoad 1), (42, oILoad 2), (43, oPS 200 1200 16 96 3 s_position), (46, oGoto 51), (49, oConst (nI 9)), (51, oIStore 17 7), (53, oFR 0 (oILoad 7)), (55, oConst (nI 8)), (57, oICmp_ge 70), (60, oALoad 0), (61, oILoad 1), (62, oILoad 7), (64, oPX 200 1200 2 12 2 p_gain), (67, oGoto 71), (70, oConst (nI 0)), (71, oIStore 17 8), (73, oFR 0 (oALoad 0)), (74, oILoad 1), (75, oPS 200 1200 16 96 2 s_gains), (78, oIStore 17 9), (80, oFR 0 (oILoad 3)), (81, oIf_eq 96), (84, oALoad 0), (85, oILoad 1), (86, oILoad 2), (87, oConst (nI 4)), (88, oRem), (89, oConst (nI 0)), (90, oPX 200 1200 2 12 3 p_monitored), (93, oGoto 97), (96, oConst (-1)), (97, oIStore 17 10), (99, oFR 0 (oALoad 0)), (100, oPS 200 1200 4 24 1 s_all), (103, oIStore 17 11), (105, oFR 0 (oALoad 0)), (106, oPV 200 1200 0 p_accesses), (109, oIStore 17 12), (111, oFR 0 (oALoad 0)), (112, oILoad 1), (113, oILoad 4), (115, oPX 200 1200 2 12 2 p_count), (118, oIStore 17 13), (120, oFR 0 (oILoad 5)), (122, oIf_ge 129), (125, oConst (nI 0)), (126, oGoto 140), (129, oALoad 0), (130, oILoad 5), (132, oConst (nI 256)), (135, oDiv), (136, oConst (nI 3)), (137, oPX 200 1200 2 12 2 p_count), (140, oIStore 17 14), (142, oFR 0 (oALoad 0)), (143, oILoad 1), (144, oILoad 2), (145, oPX 200 1200 2 12 2 p_access), (148, oILoad 4), (150, oICmp_ne 178), (153, oALoad 0), (154, oPV 200 1200 0 p_accesses), (157, oILoad 12), (159, oConst (nI 1)), (160, oAdd), (161, oICmp_ne 178), (164, oALoad 0), (165, oILoad 1), (166, oILoad 4), (168, oPX 200 1200 2 12 2 p_count), (171, oILoad 13), (173, oConst (nI 1)), (174, oAdd), (175, oICmp_eq 180), (178, oConst (nI 0)), (179, oPRetZ K 200 1200), (180, oALoad 0), (181, oILoad 1), (182, oILoad 2), (183, oPS 200 1200 16 96 3 s_find), (186, oIStore 17 15), (188, oFR 0 (oILoad 4)), (190, oConst (nI 1)), (191, oICmp_ne 223), (194, oILoad 6), (196, oIf_lt 219), (199, oILoad 15), (201, oILoad 6), (203, oICmp_ne 219), (206, oALoad 0), (207, oPS 200 1200 4 24 1 s_all), (210, oILoad 11), (212, oICmp_ne 219), (215, oConst (nI 1)), (216, oGoto 309), (219, oConst (nI 0)), (220, oGoto 309), (223, oILoad 4), (225, oConst (nI 2)), (226, oICmp_ne 264), (229, oILoad 6), (231, oIf_ge 260), (234, oILoad 15), (236, oIf_ge 260), (239, oALoad 0), (240, oILoad 1), (241, oPX 200 1200 1 6 1 p_waysOf), (244, oIf_ne 260), (247, oALoad 0), (248, oPS 200 1200 4 24 1 s_all), (251, oILoad 11), (253, oICmp_ne 260), (256, oConst (nI 1)), (257, oGoto 309), (260, oConst (nI 0)), (261, oGoto 309), (264, oILoad 6), (266, oIf_ge 308), (269, oILoad 15), (271, oIf_lt 308), (274, oALoad 0), (275, oILoad 15), (277, oPX 200 1200 1 6 1 p_owner), (280, oILoad 1), (281, oICmp_ne 308), (284, oALoad 0), (285, oPS 200 1200 4 24 1 s_all), (288, oILoad 11), (290, oILoad 5), (292, oIf_ge 299), (295, oConst (nI 1)), (296, oGoto 300), (299, oConst (nI 0)), (300, oAdd), (301, oICmp_ne 308), (304, oConst (nI 1)), (305, oGoto 309), (308, oConst (nI 0)), (309, oIStore 17 16), (311, oFR 0 (oILoad 16)), (313, oIf_eq 367), (316, oILoad 5), (318, oIf_lt 363), (321, oILoad 4), (323, oIf_ne 367), (326, oALoad 0), (327, oILoad 5), (329, oConst (nI 256)), (332, oDiv), (333, oConst (nI 3)), (334, oPX 200 1200 2 12 2 p_count), (337, oILoad 14), (339, oConst (nI 1)), (340, oAdd), (341, oICmp_ne 367), (344, oALoad 0), (345, oILoad 5), (347, oConst (nI 256)), (350, oDiv), (351, oILoad 5), (353, oConst (nI 256)), (356, oRem), (357, oPS 200 1200 16 96 3 s_find), (360, oIf_ge 367), (363, oConst (nI 1)), (364, oGoto 368), (367, oConst (nI 0)), (368, oIStore 17 16), (370, oFR 0 (oILoad 3)), (371, oIf_eq 467), (374, oILoad 16), (376, oIf_eq 464), (379, oALoad 0), (380, oILoad 1), (381, oILoad 2), (382, oConst (nI 4)), (383, oRem), (384, oConst (nI 0)), (385, oPX 200 1200 2 12 3 p_monitored), (388, oILoad 2), (389, oICmp_ne 464), (392, oALoad 0), (393, oILoad 1), (394, oPS 200 1200 16 96 2 s_gains), (397, oILoad 9), (399, oILoad 7), (401, oConst (nI 8)), (403, oICmp_ge 410), (406, oConst (nI 1)), (407, oGoto 411), (410, oConst (nI 0)), (411, oAdd), (412, oICmp_ne 464), (415, oILoad 7), (417, oConst (nI 8)), (419, oICmp_eq 436), (422, oALoad 0), (423, oILoad 1), (424, oILoad 7), (426, oPX 200 1200 2 12 2 p_gain), (429, oILoad 8), (431, oConst (nI 1)), (432, oAdd), (433, oICmp_ne 464), (436, oILoad 7), (438, oIf_eq 460), (441, oILoad 10), (443, oIf_lt 460), (446, oALoad 0), (447, oILoad 1), (448, oILoad 2), (449, oConst (nI 4)), (450, oRem), (451, oConst (nI 1)), (452, oPX 200 1200 2 12 3 p_monitored), (455, oILoad 10), (457, oICmp_ne 464), (460, oConst (nI 1)), (461, oGoto 465), (464, oConst (nI 0)), (465, oIStore 17 16), (467, oFR 0 (oILoad 16)), (469, oIf_eq 490), (472, oILoad 3), (473, oIf_ne 486), (476, oALoad 0), (477, oILoad 1), (478, oPS 200 1200 16 96 2 s_gains), (481, oILoad 9), (483, oICmp_ne 490), (486, oConst (nI 1)), (487, oGoto 491), (490, oConst (nI 0)), (491, oPRetZ K 200 1200)]
set_option maxRecDepth 100000 in
theorem kL_accesses {X : gX} {l : Launch} (hl : l.stackTraces = false) (hM : gM X l cL_accesses RL wsL_accesses rmL_accesses) {K : gK} (hE : gR X K 200 1200 (some .boolean)) (hnL : X.2.2.2.2.2.2.2.2.2.2.2.2.2.2.2.2 = 17) : okL X (pL_accesses K) := by
  obtain ⟨p, l1, e, R, s, m, args, below, meth, c, D, cA, A, ag, ad0, Q, nL⟩ := X
  cases hnL
  refine ⟨ok_FR (ok_iload_n hM 2 dL_accesses_0 rfl),
    ok_iconst hM dL_accesses_1 rfl,
    ok_irem hM dL_accesses_2,
    ok_if_ne hM 10 dL_accesses_3 (by decide),
    ok_iconst hM dL_accesses_6 rfl,
    ok_goto hM 11 dL_accesses_7 (by decide),
    ok_iconst hM dL_accesses_10 rfl,
    ok_istore_n hM 3 dL_accesses_11 rfl,
    ok_FR (ok_aload_n hM 0 dL_accesses_12 rfl),
    ok_iload_n hM 1 dL_accesses_13 rfl,
    ok_iload_n hM 2 dL_accesses_14 rfl,
    ok_PX hM (cx_ifAccessed l hl) gL_accesses_X6_ifAccessed rfl rfl rfl (by decide +kernel) (by decide) dL_accesses_15,
    ok_istore hM 4 dL_accesses_18,
    ok_FR (ok_aload_n hM 0 dL_accesses_20 rfl),
    ok_iload_n hM 1 dL_accesses_21 rfl,
    ok_iload_n hM 2 dL_accesses_22 rfl,
    ok_PX hM (cx_victim l hl) gL_accesses_X6_victim rfl rfl rfl (by decide +kernel) (by decide) dL_accesses_23,
    ok_istore hM 5 dL_accesses_26,
    ok_FR (ok_aload_n hM 0 dL_accesses_28 rfl),
    ok_iload_n hM 1 dL_accesses_29 rfl,
    ok_iload_n hM 2 dL_accesses_30 rfl,
    ok_PS hM (ctL_find l hl) gL_accesses_L_find rfl rfl rfl (by decide +kernel) (by decide) dL_accesses_31,
    ok_istore hM 6 dL_accesses_34,
    ok_FR (ok_iload_n hM 3 dL_accesses_36 rfl),
    ok_if_eq hM 49 dL_accesses_37 (by decide),
    ok_aload_n hM 0 dL_accesses_40 rfl,
    ok_iload_n hM 1 dL_accesses_41 rfl,
    ok_iload_n hM 2 dL_accesses_42 rfl,
    ok_PS hM (ctL_position l hl) gL_accesses_L_position rfl rfl rfl (by decide +kernel) (by decide) dL_accesses_43,
    ok_goto hM 51 dL_accesses_46 (by decide),
    ok_bipush hM dL_accesses_49 rfl,
    ok_istore hM 7 dL_accesses_51,
    ok_FR (ok_iload hM 7 dL_accesses_53),
    ok_bipush hM dL_accesses_55 rfl,
    ok_icmp_ge hM 70 dL_accesses_57 (by decide),
    ok_aload_n hM 0 dL_accesses_60 rfl,
    ok_iload_n hM 1 dL_accesses_61 rfl,
    ok_iload hM 7 dL_accesses_62,
    ok_PX hM (cx_gain l hl) gL_accesses_X6_gain rfl rfl rfl (by decide +kernel) (by decide) dL_accesses_64,
    ok_goto hM 71 dL_accesses_67 (by decide),
    ok_iconst hM dL_accesses_70 rfl,
    ok_istore hM 8 dL_accesses_71,
    ok_FR (ok_aload_n hM 0 dL_accesses_73 rfl),
    ok_iload_n hM 1 dL_accesses_74 rfl,
    ok_PS hM (ctL_gains l hl) gL_accesses_L_gains rfl rfl rfl (by decide +kernel) (by decide) dL_accesses_75,
    ok_istore hM 9 dL_accesses_78,
    ok_FR (ok_iload_n hM 3 dL_accesses_80 rfl),
    ok_if_eq hM 96 dL_accesses_81 (by decide),
    ok_aload_n hM 0 dL_accesses_84 rfl,
    ok_iload_n hM 1 dL_accesses_85 rfl,
    ok_iload_n hM 2 dL_accesses_86 rfl,
    ok_iconst hM dL_accesses_87 rfl,
    ok_irem hM dL_accesses_88,
    ok_iconst hM dL_accesses_89 rfl,
    ok_PX hM (cx_monitored l hl) gL_accesses_X6_monitored rfl rfl rfl (by decide +kernel) (by decide) dL_accesses_90,
    ok_goto hM 97 dL_accesses_93 (by decide),
    ok_iconst hM dL_accesses_96 rfl,
    ok_istore hM 10 dL_accesses_97,
    ok_FR (ok_aload_n hM 0 dL_accesses_99 rfl),
    ok_PS hM (ctL_all l hl) gL_accesses_L_all rfl rfl rfl (by decide +kernel) (by decide) dL_accesses_100,
    ok_istore hM 11 dL_accesses_103,
    ok_FR (ok_aload_n hM 0 dL_accesses_105 rfl),
    ok_PV hM (cx_accesses l) gL_accesses_X6_accesses rfl rfl rfl (by decide +kernel) (by decide) dL_accesses_106,
    ok_istore hM 12 dL_accesses_109,
    ok_FR (ok_aload_n hM 0 dL_accesses_111 rfl),
    ok_iload_n hM 1 dL_accesses_112 rfl,
    ok_iload hM 4 dL_accesses_113,
    ok_PX hM (cx_count l hl) gL_accesses_X6_count rfl rfl rfl (by decide +kernel) (by decide) dL_accesses_115,
    ok_istore hM 13 dL_accesses_118,
    ok_FR (ok_iload hM 5 dL_accesses_120),
    ok_if_ge hM 129 dL_accesses_122 (by decide),
    ok_iconst hM dL_accesses_125 rfl,
    ok_goto hM 140 dL_accesses_126 (by decide),
    ok_aload_n hM 0 dL_accesses_129 rfl,
    ok_iload hM 5 dL_accesses_130,
    ok_sipush hM dL_accesses_132 rfl,
    ok_idiv hM dL_accesses_135,
    ok_iconst hM dL_accesses_136 rfl,
    ok_PX hM (cx_count l hl) gL_accesses_X6_count rfl rfl rfl (by decide +kernel) (by decide) dL_accesses_137,
    ok_istore hM 14 dL_accesses_140,
    ok_FR (ok_aload_n hM 0 dL_accesses_142 rfl),
    ok_iload_n hM 1 dL_accesses_143 rfl,
    ok_iload_n hM 2 dL_accesses_144 rfl,
    ok_PX hM (cx_access l hl) gL_accesses_X6_access rfl rfl rfl (by decide +kernel) (by decide) dL_accesses_145,
    ok_iload hM 4 dL_accesses_148,
    ok_icmp_ne hM 178 dL_accesses_150 (by decide),
    ok_aload_n hM 0 dL_accesses_153 rfl,
    ok_PV hM (cx_accesses l) gL_accesses_X6_accesses rfl rfl rfl (by decide +kernel) (by decide) dL_accesses_154,
    ok_iload hM 12 dL_accesses_157,
    ok_iconst hM dL_accesses_159 rfl,
    ok_iadd hM dL_accesses_160,
    ok_icmp_ne hM 178 dL_accesses_161 (by decide),
    ok_aload_n hM 0 dL_accesses_164 rfl,
    ok_iload_n hM 1 dL_accesses_165 rfl,
    ok_iload hM 4 dL_accesses_166,
    ok_PX hM (cx_count l hl) gL_accesses_X6_count rfl rfl rfl (by decide +kernel) (by decide) dL_accesses_168,
    ok_iload hM 13 dL_accesses_171,
    ok_iconst hM dL_accesses_173 rfl,
    ok_iadd hM dL_accesses_174,
    ok_icmp_eq hM 180 dL_accesses_175 (by decide),
    ok_iconst hM dL_accesses_178 rfl,
    ok_PRetZ hM hE dL_accesses_179,
    ok_aload_n hM 0 dL_accesses_180 rfl,
    ok_iload_n hM 1 dL_accesses_181 rfl,
    ok_iload_n hM 2 dL_accesses_182 rfl,
    ok_PS hM (ctL_find l hl) gL_accesses_L_find rfl rfl rfl (by decide +kernel) (by decide) dL_accesses_183,
    ok_istore hM 15 dL_accesses_186,
    ok_FR (ok_iload hM 4 dL_accesses_188),
    ok_iconst hM dL_accesses_190 rfl,
    ok_icmp_ne hM 223 dL_accesses_191 (by decide),
    ok_iload hM 6 dL_accesses_194,
    ok_if_lt hM 219 dL_accesses_196 (by decide),
    ok_iload hM 15 dL_accesses_199,
    ok_iload hM 6 dL_accesses_201,
    ok_icmp_ne hM 219 dL_accesses_203 (by decide),
    ok_aload_n hM 0 dL_accesses_206 rfl,
    ok_PS hM (ctL_all l hl) gL_accesses_L_all rfl rfl rfl (by decide +kernel) (by decide) dL_accesses_207,
    ok_iload hM 11 dL_accesses_210,
    ok_icmp_ne hM 219 dL_accesses_212 (by decide),
    ok_iconst hM dL_accesses_215 rfl,
    ok_goto hM 309 dL_accesses_216 (by decide),
    ok_iconst hM dL_accesses_219 rfl,
    ok_goto hM 309 dL_accesses_220 (by decide),
    ok_iload hM 4 dL_accesses_223,
    ok_iconst hM dL_accesses_225 rfl,
    ok_icmp_ne hM 264 dL_accesses_226 (by decide),
    ok_iload hM 6 dL_accesses_229,
    ok_if_ge hM 260 dL_accesses_231 (by decide),
    ok_iload hM 15 dL_accesses_234,
    ok_if_ge hM 260 dL_accesses_236 (by decide),
    ok_aload_n hM 0 dL_accesses_239 rfl,
    ok_iload_n hM 1 dL_accesses_240 rfl,
    ok_PX hM (cx_waysOf l hl) gL_accesses_X6_waysOf rfl rfl rfl (by decide +kernel) (by decide) dL_accesses_241,
    ok_if_ne hM 260 dL_accesses_244 (by decide),
    ok_aload_n hM 0 dL_accesses_247 rfl,
    ok_PS hM (ctL_all l hl) gL_accesses_L_all rfl rfl rfl (by decide +kernel) (by decide) dL_accesses_248,
    ok_iload hM 11 dL_accesses_251,
    ok_icmp_ne hM 260 dL_accesses_253 (by decide),
    ok_iconst hM dL_accesses_256 rfl,
    ok_goto hM 309 dL_accesses_257 (by decide),
    ok_iconst hM dL_accesses_260 rfl,
    ok_goto hM 309 dL_accesses_261 (by decide),
    ok_iload hM 6 dL_accesses_264,
    ok_if_ge hM 308 dL_accesses_266 (by decide),
    ok_iload hM 15 dL_accesses_269,
    ok_if_lt hM 308 dL_accesses_271 (by decide),
    ok_aload_n hM 0 dL_accesses_274 rfl,
    ok_iload hM 15 dL_accesses_275,
    ok_PX hM (cx_owner l hl) gL_accesses_X6_owner rfl rfl rfl (by decide +kernel) (by decide) dL_accesses_277,
    ok_iload_n hM 1 dL_accesses_280 rfl,
    ok_icmp_ne hM 308 dL_accesses_281 (by decide),
    ok_aload_n hM 0 dL_accesses_284 rfl,
    ok_PS hM (ctL_all l hl) gL_accesses_L_all rfl rfl rfl (by decide +kernel) (by decide) dL_accesses_285,
    ok_iload hM 11 dL_accesses_288,
    ok_iload hM 5 dL_accesses_290,
    ok_if_ge hM 299 dL_accesses_292 (by decide),
    ok_iconst hM dL_accesses_295 rfl,
    ok_goto hM 300 dL_accesses_296 (by decide),
    ok_iconst hM dL_accesses_299 rfl,
    ok_iadd hM dL_accesses_300,
    ok_icmp_ne hM 308 dL_accesses_301 (by decide),
    ok_iconst hM dL_accesses_304 rfl,
    ok_goto hM 309 dL_accesses_305 (by decide),
    ok_iconst hM dL_accesses_308 rfl,
    ok_istore hM 16 dL_accesses_309,
    ok_FR (ok_iload hM 16 dL_accesses_311),
    ok_if_eq hM 367 dL_accesses_313 (by decide),
    ok_iload hM 5 dL_accesses_316,
    ok_if_lt hM 363 dL_accesses_318 (by decide),
    ok_iload hM 4 dL_accesses_321,
    ok_if_ne hM 367 dL_accesses_323 (by decide),
    ok_aload_n hM 0 dL_accesses_326 rfl,
    ok_iload hM 5 dL_accesses_327,
    ok_sipush hM dL_accesses_329 rfl,
    ok_idiv hM dL_accesses_332,
    ok_iconst hM dL_accesses_333 rfl,
    ok_PX hM (cx_count l hl) gL_accesses_X6_count rfl rfl rfl (by decide +kernel) (by decide) dL_accesses_334,
    ok_iload hM 14 dL_accesses_337,
    ok_iconst hM dL_accesses_339 rfl,
    ok_iadd hM dL_accesses_340,
    ok_icmp_ne hM 367 dL_accesses_341 (by decide),
    ok_aload_n hM 0 dL_accesses_344 rfl,
    ok_iload hM 5 dL_accesses_345,
    ok_sipush hM dL_accesses_347 rfl,
    ok_idiv hM dL_accesses_350,
    ok_iload hM 5 dL_accesses_351,
    ok_sipush hM dL_accesses_353 rfl,
    ok_irem hM dL_accesses_356,
    ok_PS hM (ctL_find l hl) gL_accesses_L_find rfl rfl rfl (by decide +kernel) (by decide) dL_accesses_357,
    ok_if_ge hM 367 dL_accesses_360 (by decide),
    ok_iconst hM dL_accesses_363 rfl,
    ok_goto hM 368 dL_accesses_364 (by decide),
    ok_iconst hM dL_accesses_367 rfl,
    ok_istore hM 16 dL_accesses_368,
    ok_FR (ok_iload_n hM 3 dL_accesses_370 rfl),
    ok_if_eq hM 467 dL_accesses_371 (by decide),
    ok_iload hM 16 dL_accesses_374,
    ok_if_eq hM 464 dL_accesses_376 (by decide),
    ok_aload_n hM 0 dL_accesses_379 rfl,
    ok_iload_n hM 1 dL_accesses_380 rfl,
    ok_iload_n hM 2 dL_accesses_381 rfl,
    ok_iconst hM dL_accesses_382 rfl,
    ok_irem hM dL_accesses_383,
    ok_iconst hM dL_accesses_384 rfl,
    ok_PX hM (cx_monitored l hl) gL_accesses_X6_monitored rfl rfl rfl (by decide +kernel) (by decide) dL_accesses_385,
    ok_iload_n hM 2 dL_accesses_388 rfl,
    ok_icmp_ne hM 464 dL_accesses_389 (by decide),
    ok_aload_n hM 0 dL_accesses_392 rfl,
    ok_iload_n hM 1 dL_accesses_393 rfl,
    ok_PS hM (ctL_gains l hl) gL_accesses_L_gains rfl rfl rfl (by decide +kernel) (by decide) dL_accesses_394,
    ok_iload hM 9 dL_accesses_397,
    ok_iload hM 7 dL_accesses_399,
    ok_bipush hM dL_accesses_401 rfl,
    ok_icmp_ge hM 410 dL_accesses_403 (by decide),
    ok_iconst hM dL_accesses_406 rfl,
    ok_goto hM 411 dL_accesses_407 (by decide),
    ok_iconst hM dL_accesses_410 rfl,
    ok_iadd hM dL_accesses_411,
    ok_icmp_ne hM 464 dL_accesses_412 (by decide),
    ok_iload hM 7 dL_accesses_415,
    ok_bipush hM dL_accesses_417 rfl,
    ok_icmp_eq hM 436 dL_accesses_419 (by decide),
    ok_aload_n hM 0 dL_accesses_422 rfl,
    ok_iload_n hM 1 dL_accesses_423 rfl,
    ok_iload hM 7 dL_accesses_424,
    ok_PX hM (cx_gain l hl) gL_accesses_X6_gain rfl rfl rfl (by decide +kernel) (by decide) dL_accesses_426,
    ok_iload hM 8 dL_accesses_429,
    ok_iconst hM dL_accesses_431 rfl,
    ok_iadd hM dL_accesses_432,
    ok_icmp_ne hM 464 dL_accesses_433 (by decide),
    ok_iload hM 7 dL_accesses_436,
    ok_if_eq hM 460 dL_accesses_438 (by decide),
    ok_iload hM 10 dL_accesses_441,
    ok_if_lt hM 460 dL_accesses_443 (by decide),
    ok_aload_n hM 0 dL_accesses_446 rfl,
    ok_iload_n hM 1 dL_accesses_447 rfl,
    ok_iload_n hM 2 dL_accesses_448 rfl,
    ok_iconst hM dL_accesses_449 rfl,
    ok_irem hM dL_accesses_450,
    ok_iconst hM dL_accesses_451 rfl,
    ok_PX hM (cx_monitored l hl) gL_accesses_X6_monitored rfl rfl rfl (by decide +kernel) (by decide) dL_accesses_452,
    ok_iload hM 10 dL_accesses_455,
    ok_icmp_ne hM 464 dL_accesses_457 (by decide),
    ok_iconst hM dL_accesses_460 rfl,
    ok_goto hM 465 dL_accesses_461 (by decide),
    ok_iconst hM dL_accesses_464 rfl,
    ok_istore hM 16 dL_accesses_465,
    ok_FR (ok_iload hM 16 dL_accesses_467),
    ok_if_eq hM 490 dL_accesses_469 (by decide),
    ok_iload_n hM 3 dL_accesses_472 rfl,
    ok_if_ne hM 486 dL_accesses_473 (by decide),
    ok_aload_n hM 0 dL_accesses_476 rfl,
    ok_iload_n hM 1 dL_accesses_477 rfl,
    ok_PS hM (ctL_gains l hl) gL_accesses_L_gains rfl rfl rfl (by decide +kernel) (by decide) dL_accesses_478,
    ok_iload hM 9 dL_accesses_481,
    ok_icmp_ne hM 490 dL_accesses_483 (by decide),
    ok_iconst hM dL_accesses_486 rfl,
    ok_goto hM 491 dL_accesses_487 (by decide),
    ok_iconst hM dL_accesses_490 rfl,
    ok_PRetZ hM hE dL_accesses_491,
    trivial⟩
set_option maxRecDepth 100000 in
theorem ctL_accesses (l : Launch) (hl : l.stackTraces = false) : Ct l yL_accesses wsL_accesses rmL_accesses 200 1200 false (hS s_accesses) := by
  refine ct_of (own := RL) (cc := cL_accesses) (maxL := 17) (ret := (some .boolean)) (by decide) rfl rfl (by rintro _ _ _ ⟨v, F, hPW, ⟨t, a, B, rfl, ht, ha, hV, hF⟩, hK⟩; exact Nat.le_of_ble_eq_true rfl) ?_
  intro X av es K hM hE hag _ hnL hsp
  obtain ⟨v, F, hPW, ⟨t, a, B, rfl, ht, ha, hV, hF⟩, hK⟩ := hsp
  have hf := kL_accesses hl hM hE hnL
  rw [← List.append_nil es]
  obtain ⟨hk, hS, hU, hM, hG, hC, hE⟩ := id hV
  have hH := pV_H hV
  have hV' := pV_ac hV ht ha
  have hcn := k_cnt v t a
  have hac := (acB_c v t a).2.2.2.2.2
  have hkv := k_v hV ht ha
  have hR := acR_le v t a
  have hP9 := acP_le v t a
  have k1 := fun h => k_1 (v := v) (t := t) (a := a) h
  have k2 := fun h => k_2 (v := v) (t := t) (a := a) h
  have k0 := fun h => k_0 hV ht ha h
  have ks := fun h => k_s hV ht ha h
  have ko := fun h => k_o (v := v) (t := t) (a := a) h
  have hob : ∀ go, acO v t a go ↔ (vcR v t a = -1 ∨ ∃ t2 a2, t2 < 4 ∧ a2 < 256 ∧ vcR v t a = nI (t2 * 256 + a2) ∧ acR v t a = 0 ∧ vCo (acB v t a) (t2 * 4 + 3) = vCo v (t2 * 4 + 3) + nI 1 ∧ fdR (vHd (acB v t a)) t2 a2 < 0 ∧ go = vCo v (t2 * 4 + 3)) := fun go => Iff.rfl
  obtain ⟨u, hu⟩ : ∃ u, acB v t a = u := ⟨_, rfl⟩
  rw [hu] at hV' hcn hac hkv k1 k2 k0 ks ko hF
  simp only [hu] at hob
  have hU' := hV'.2.2.1
  have hH' := pV_H hV'
  -- the end
  refine g_cut (X := X) 467 [0, 1, 2, 3, 9, 16] (fun vs es k n => ∃ (C : List gE), PW u C ∧ vs = [.ref 0, .int (nI t), .int (nI a), .int (acS a), .int (gsM (vGa v) t), .int (nI 1)] ∧ es = C ++ [] ∧ k ≤ 140 ∧ n ≤ 840) cut_nil (fun vs es k n hI => ?_) (fun hc467 => ?_)
  · obtain ⟨C, hPW, rfl, rfl, hkk, hnn⟩ := hI
    refine g_go hf cut_nil 30 ?_
    refine ⟨fun q => absurd q (by decide), fun _ => ?_⟩
    by_cases hev : a % 2 = 0
    · have e : acS a = nI 1 := if_pos hev
      rw [e]
      refine ⟨fun _ => ?_, fun q => absurd q (by decide)⟩
      exact ⟨⟨by omega, by omega⟩, Or.inr (by decide), u, C, [], rfl, hPW, hK _ _ _ hF hPW⟩
    · have e : acS a = nI 0 := if_neg hev
      rw [e]
      refine ⟨fun q => absurd (by decide) q, fun _ => ?_⟩
      refine ⟨⟨by omega, by omega⟩, u, C, [], rfl, hPW, ⟨t, rfl, ht, fun C hPW => ?_⟩⟩
      refine ⟨fun q => absurd (ko hev) q, fun _ => ?_⟩
      exact ⟨⟨by omega, by omega⟩, Or.inr (by decide), u, C, [], rfl, hPW, hK _ _ _ hF hPW⟩
  -- the list's second
  refine g_cut (X := X) 436 [0, 1, 2, 3, 7, 9, 10] (fun vs es k n => ∃ (C : List gE), a % 2 = 0 ∧ PW u C ∧ vs = [.ref 0, .int (nI t), .int (nI a), .int (acS a), .int (nI (acP v t a)), .int (gsM (vGa v) t), .int (acF v t a)] ∧ es = C ++ [] ∧ k ≤ 127 ∧ n ≤ 762) hc467 (fun vs es k n hI => ?_) (fun hc436 => ?_)
  · obtain ⟨C, hev, hPW, rfl, rfl, hkk, hnn⟩ := hI
    obtain ⟨s1, s2, s3, s4⟩ := ks hev
    have eP : acP v t a = psN (vAd v) (mqI t a) a := if_pos hev
    have eF : acF v t a = vAd v (mqI t a * 8 + 0) := if_pos hev
    rw [← eP, ← eF] at s4
    refine g_go hf hc467 30 ?_
    refine ⟨fun q => ?_, fun q => ?_⟩
    · exact ⟨C, hPW, rfl, rfl, by omega, by omega⟩
    · have hp0 : ¬ acP v t a = 0 := fun z => q (by rw [z]; rfl)
      refine ⟨fun q2 => ?_, fun q2 => ?_⟩
      · exact ⟨C, hPW, rfl, rfl, by omega, by omega⟩
      · refine ⟨by decide, ?_⟩
        refine ⟨⟨by omega, by omega⟩, u, C, [], rfl, hPW, ⟨t, a % 4, 1, by rw [rem4 ha], ht, by omega, by omega, fun C hPW => ?_⟩⟩
        refine ⟨fun q3 => absurd (s4 hp0) q3, fun _ => ?_⟩
        exact ⟨C, hPW, rfl, rfl, by omega, by omega⟩
  -- what the monitor learns
  refine g_cut (X := X) 370 [0, 1, 2, 3, 7, 8, 9, 10, 16] (fun vs es k n => ∃ (C : List gE), PW u C ∧ vs = [.ref 0, .int (nI t), .int (nI a), .int (acS a), .int (nI (acP v t a)), .int (acG v t a), .int (gsM (vGa v) t), .int (acF v t a), .int (nI 1)] ∧ es = C ++ [] ∧ k ≤ 107 ∧ n ≤ 642) hc436 (fun vs es k n hI => ?_) (fun hc370 => ?_)
  · obtain ⟨C, hPW, rfl, rfl, hkk, hnn⟩ := hI
    refine g_go hf hc436 30 ?_
    by_cases hev : a % 2 = 0
    · have e : acS a = nI 1 := if_pos hev
      have eP : acP v t a = psN (vAd v) (mqI t a) a := if_pos hev
      have eF : acF v t a = vAd v (mqI t a * 8 + 0) := if_pos hev
      obtain ⟨s1, s2, s3, s4⟩ := ks hev
      rw [← eP] at s2 s3 s4
      rw [← eF] at s4
      rw [e]
      refine ⟨fun q => absurd q (by decide), fun _ => ?_⟩
      refine ⟨fun q => absurd q (by decide), fun _ => ?_⟩
      refine ⟨by decide, ?_⟩
      refine ⟨⟨by omega, by omega⟩, u, C, [], rfl, hPW, ⟨t, a % 4, 0, by rw [rem4 ha], ht, by omega, by omega, fun C hPW => ?_⟩⟩
      refine ⟨fun q => absurd s1 q, fun _ => ?_⟩
      refine ⟨⟨by omega, by omega⟩, u, C, [], rfl, hPW, ⟨t, rfl, ht, fun C hPW => ?_⟩⟩
      refine ⟨fun q => ?_, fun q => ?_⟩
      · -- the position is 8: no gain
        have q : nI 8 ≤ nI (acP v t a) := q
        rw [nI_leI (by decide) (by omega)] at q
        have s2' : gsM (vGa u) t = gsM (vGa v) t + nI 0 := by rw [s2, if_neg (by omega)]
        refine ⟨fun q2 => absurd s2' q2, fun _ => ?_⟩
        have hp8 : acP v t a = 8 := by
          have := psN_le (vAd v) (mqI t a) a
          rw [eP] at q ⊢
          omega
        refine ⟨fun _ => ?_, fun q2 => absurd (congrArg nI hp8) q2⟩
        exact ⟨C, hev, hPW, by first | rfl | rw [e], rfl, by omega, by omega⟩
      · have q : ¬ nI 8 ≤ nI (acP v t a) := q
        rw [nI_leI (by decide) (by omega)] at q
        have s2' : gsM (vGa u) t = gsM (vGa v) t + nI 1 := by rw [s2, if_pos (by omega)]
        refine ⟨fun q2 => absurd s2' q2, fun _ => ?_⟩
        refine ⟨fun q2 => absurd (nI_inj q2 (by omega) (by omega)) (by omega), fun _ => ?_⟩
        refine ⟨⟨by omega, by omega⟩, u, C, [], rfl, hPW, ⟨t, acP v t a, rfl, ht, by omega, fun C hPW => ?_⟩⟩
        have eG : acG v t a = vGa v (t * 8 + acP v t a) := if_pos (by omega)
        rw [eG]
        refine ⟨fun q2 => absurd (s3 (by omega)) q2, fun _ => ?_⟩
        exact ⟨C, hev, hPW, by first | rfl | rw [e], rfl, by omega, by omega⟩
    · have e : acS a = nI 0 := if_neg hev
      rw [e]
      refine ⟨fun _ => ?_, fun q => absurd (by decide) q⟩
      exact ⟨C, hPW, by first | rfl | rw [e], rfl, by omega, by omega⟩
  -- what goes
  refine g_cut (X := X) 311 [0, 1, 2, 3, 4, 5, 7, 8, 9, 10, 14, 16] (fun vs es k n => ∃ (C : List gE) (go : Int32), PW u C ∧ acO v t a go ∧ vs = [.ref 0, .int (nI t), .int (nI a), .int (acS a), .int (nI (acR v t a)), .int (vcR v t a), .int (nI (acP v t a)), .int (acG v t a), .int (gsM (vGa v) t), .int (acF v t a), .int go, .int (nI 1)] ∧ es = C ++ [] ∧ k ≤ 89 ∧ n ≤ 534) hc370 (fun vs es k n hI => ?_) (fun hc311 => ?_)
  · obtain ⟨C, go, hPW, hgo, rfl, rfl, hkk, hnn⟩ := hI
    rw [hob] at hgo
    refine g_go hf hc370 30 ?_
    refine ⟨fun q => absurd q (by decide), fun _ => ?_⟩
    rcases hgo with h0 | ⟨t2, a2, ht2, ha2, h1, h2, h3, h4, h5⟩
    · rw [h0]
      refine ⟨fun _ => ?_, fun q => absurd (by decide) q⟩
      exact ⟨C, hPW, rfl, rfl, by omega, by omega⟩
    · rw [h1]
      refine ⟨fun q => absurd q (nI_pos (by omega)), fun _ => ?_⟩
      refine ⟨fun q => absurd ((congrArg nI h2).trans nI_0) q, fun _ => ?_⟩
      refine ⟨by decide, ?_⟩
      refine ⟨⟨by omega, by omega⟩, u, C, [], rfl, hPW, ⟨t2, 3, by rw [ln_div ht2 ha2], ht2, by omega, fun C hPW => ?_⟩⟩
      refine ⟨fun q => absurd (by rw [h5]; exact h3) q, fun _ => ?_⟩
      refine ⟨by decide, ?_⟩
      refine ⟨by decide, ?_⟩
      refine ⟨⟨by omega, by omega⟩, u, C, [], rfl, hPW, ⟨t2, a2, by rw [ln_rem ht2 ha2, ln_div ht2 ha2], ht2, ha2, hU', fun C hPW => ?_⟩⟩
      refine ⟨fun q => absurd h4 (Int32.not_lt.mpr q), fun _ => ?_⟩
      exact ⟨C, hPW, rfl, rfl, by omega, by omega⟩
  -- what it was
  refine g_cut (X := X) 188 [0, 1, 2, 3, 4, 5, 6, 7, 8, 9, 10, 11, 14, 15] (fun vs es k n => ∃ (C : List gE) (go : Int32), PW u C ∧ acO v t a go ∧ vs = [.ref 0, .int (nI t), .int (nI a), .int (acS a), .int (nI (acR v t a)), .int (vcR v t a), .int (fdR (vHd v) t a), .int (nI (acP v t a)), .int (acG v t a), .int (gsM (vGa v) t), .int (acF v t a), .int (nI (nE (vHd v))), .int go, .int (fdR (vHd u) t a)] ∧ es = C ++ [] ∧ k ≤ 84 ∧ n ≤ 504) hc311 (fun vs es k n hI => ?_) (fun hc188 => ?_)
  · obtain ⟨C, go, hPW, hgo, rfl, rfl, hkk, hnn⟩ := hI
    refine g_go hf hc311 30 ?_
    have hR3 : acR v t a = 0 ∨ acR v t a = 1 ∨ acR v t a = 2 := by omega
    rcases hR3 with hr | hr | hr
    · obtain ⟨p, i, hp, hi, b1, b2, b3, b4, b5, b6, b7⟩ := k0 hr
      refine ⟨fun _ => ?_, fun q => absurd (nI_inj q (by omega) (by omega)) (by omega)⟩
      refine ⟨fun _ => ?_, fun q => absurd (nI_inj q (by omega) (by omega)) (by omega)⟩
      refine ⟨fun q => absurd b1 (Int32.not_lt.mpr q), fun _ => ?_⟩
      rw [b4]
      refine ⟨fun q => absurd q (nI_pos (by omega)), fun _ => ?_⟩
      refine ⟨⟨by omega, by omega⟩, u, C, [], rfl, hPW, ⟨i, rfl, hi, fun C hPW => ?_⟩⟩
      refine ⟨fun q => absurd b5 q, fun _ => ?_⟩
      refine ⟨⟨by omega, by omega⟩, u, C, [], rfl, hPW, ⟨rfl, hH', fun C hPW => ?_⟩⟩
      rw [b6]
      rcases hH p hp with hn | ⟨c, hc9, hcv⟩
      · rw [hn]
        rw [if_pos hn] at b7
        refine ⟨fun q => absurd q (by decide), fun _ => ?_⟩
        refine ⟨fun q => absurd (by rw [b7, nI_add]) q, fun _ => ?_⟩
        exact ⟨C, go, hPW, hgo, by first | rfl | rw [b6, hn], rfl, by omega, by omega⟩
      · rw [hcv]
        rw [if_neg (by rw [hcv]; exact nI_m1 (by omega))] at b7
        refine ⟨fun _ => ?_, fun q => absurd (nI_pos' (by omega)) q⟩
        refine ⟨fun q => absurd (by rw [b7, nI_add]) q, fun _ => ?_⟩
        exact ⟨C, go, hPW, hgo, by first | rfl | rw [b6, hcv], rfl, by omega, by omega⟩
    · obtain ⟨b1, b2⟩ := k1 hr
      refine ⟨fun q => absurd (congrArg nI hr) q, fun _ => ?_⟩
      refine ⟨fun q => absurd q b1, fun _ => ?_⟩
      refine ⟨fun q => absurd (by rw [b2]) q, fun _ => ?_⟩
      refine ⟨⟨by omega, by omega⟩, u, C, [], rfl, hPW, ⟨rfl, hH', fun C hPW => ?_⟩⟩
      refine ⟨fun q => absurd (by rw [b2]) q, fun _ => ?_⟩
      exact ⟨C, go, hPW, hgo, rfl, rfl, by omega, by omega⟩
    · obtain ⟨b1, b2, b3⟩ := k2 hr
      refine ⟨fun _ => ?_, fun q => absurd (nI_inj q (by omega) (by omega)) (by omega)⟩
      refine ⟨fun q => absurd (congrArg nI hr) q, fun _ => ?_⟩
      refine ⟨fun q => absurd b1 (Int32.not_lt.mpr q), fun _ => ?_⟩
      refine ⟨fun q => absurd (by rw [b2]; exact b1) (Int32.not_lt.mpr q), fun _ => ?_⟩
      refine ⟨⟨by omega, by omega⟩, u, C, [], rfl, hPW, ⟨t, rfl, ht, fun C hPW => ?_⟩⟩
      refine ⟨fun q => absurd ((congrArg nI b3).trans nI_0) q, fun _ => ?_⟩
      refine ⟨⟨by omega, by omega⟩, u, C, [], rfl, hPW, ⟨rfl, hH', fun C hPW => ?_⟩⟩
      refine ⟨fun q => absurd (by rw [b2]) q, fun _ => ?_⟩
      exact ⟨C, go, hPW, hgo, rfl, rfl, by omega, by omega⟩
  -- the access
  refine g_cut (X := X) 142 [0, 1, 2, 3, 4, 5, 6, 7, 8, 9, 10, 11, 12, 13, 14] (fun vs es k n => ∃ (C : List gE) (go : Int32), PW v C ∧ acO v t a go ∧ vs = [.ref 0, .int (nI t), .int (nI a), .int (acS a), .int (nI (acR v t a)), .int (vcR v t a), .int (fdR (vHd v) t a), .int (nI (acP v t a)), .int (acG v t a), .int (gsM (vGa v) t), .int (acF v t a), .int (nI (nE (vHd v))), .int (vAc v), .int (vCo v (t * 4 + acR v t a)), .int go] ∧ es = C ++ [] ∧ k ≤ 64 ∧ n ≤ 384) hc188 (fun vs es k n hI => ?_) (fun hc142 => ?_)
  · obtain ⟨C, go, hPW, hgo, rfl, rfl, hkk, hnn⟩ := hI
    refine g_go hf hc188 30 ?_
    refine ⟨⟨by omega, by omega⟩, v, C, [], rfl, hPW, ⟨t, a, rfl, ht, by omega, hk, fun C hPW => ?_⟩⟩
    rw [acV_0 hE, hu] at hPW
    refine ⟨fun q => absurd rfl q, fun _ => ?_⟩
    refine ⟨⟨by omega, by omega⟩, u, C, [], rfl, hPW, ⟨rfl, fun C hPW => ?_⟩⟩
    refine ⟨fun q => absurd hac q, fun _ => ?_⟩
    refine ⟨⟨by omega, by omega⟩, u, C, [], rfl, hPW, ⟨t, acR v t a, rfl, ht, by omega, fun C hPW => ?_⟩⟩
    refine ⟨fun _ => ?_, fun q => absurd hcn q⟩
    refine ⟨⟨by omega, by omega⟩, u, C, [], rfl, hPW, ⟨t, a, rfl, ht, ha, hU', fun C hPW => ?_⟩⟩
    exact ⟨C, go, hPW, hgo, rfl, rfl, by omega, by omega⟩
  -- what is asked before
  refine g_cut (X := X) 99 [0, 1, 2, 3, 4, 5, 6, 7, 8, 9, 10] (fun vs es k n => ∃ (C : List gE), PW v C ∧ vs = [.ref 0, .int (nI t), .int (nI a), .int (acS a), .int (nI (acR v t a)), .int (vcR v t a), .int (fdR (vHd v) t a), .int (nI (acP v t a)), .int (acG v t a), .int (gsM (vGa v) t), .int (acF v t a)] ∧ es = C ++ [] ∧ k ≤ 56 ∧ n ≤ 336) hc142 (fun vs es k n hI => ?_) (fun hc99 => ?_)
  · obtain ⟨C, hPW, rfl, rfl, hkk, hnn⟩ := hI
    refine g_go hf hc142 30 ?_
    refine ⟨⟨by omega, by omega⟩, v, C, [], rfl, hPW, ⟨rfl, hH, fun C hPW => ?_⟩⟩
    refine ⟨⟨by omega, by omega⟩, v, C, [], rfl, hPW, ⟨rfl, fun C hPW => ?_⟩⟩
    refine ⟨⟨by omega, by omega⟩, v, C, [], rfl, hPW, ⟨t, acR v t a, rfl, ht, by omega, fun C hPW => ?_⟩⟩
    rcases hkv with h0 | ⟨t2, a2, ht2, ha2, h1, h2, h3, h4⟩
    · rw [h0]
      refine ⟨fun q => absurd q (by decide), fun _ => ?_⟩
      exact ⟨C, nI 0, hPW, (hob _).mpr (Or.inl h0), by first | rfl | rw [h0], rfl, by omega, by omega⟩
    · rw [h1]
      refine ⟨fun _ => ?_, fun q => absurd (nI_pos' (by omega)) q⟩
      refine ⟨by decide, ?_⟩
      refine ⟨⟨by omega, by omega⟩, v, C, [], rfl, hPW, ⟨t2, 3, by rw [ln_div ht2 ha2], ht2, by omega, fun C hPW => ?_⟩⟩
      exact ⟨C, vCo v (t2 * 4 + 3), hPW, (hob _).mpr (Or.inr ⟨t2, a2, ht2, ha2, h1, h2, h3, h4, rfl⟩), by first | rfl | rw [h1], rfl, by omega, by omega⟩
  refine g_cut (X := X) 73 [0, 1, 2, 3, 4, 5, 6, 7, 8] (fun vs es k n => ∃ (C : List gE), PW v C ∧ vs = [.ref 0, .int (nI t), .int (nI a), .int (acS a), .int (nI (acR v t a)), .int (vcR v t a), .int (fdR (vHd v) t a), .int (nI (acP v t a)), .int (acG v t a)] ∧ es = C ++ [] ∧ k ≤ 38 ∧ n ≤ 228) hc99 (fun vs es k n hI => ?_) (fun hc73 => ?_)
  · obtain ⟨C, hPW, rfl, rfl, hkk, hnn⟩ := hI
    refine g_go hf hc99 30 ?_
    refine ⟨⟨by omega, by omega⟩, v, C, [], rfl, hPW, ⟨t, rfl, ht, fun C hPW => ?_⟩⟩
    by_cases hev : a % 2 = 0
    · have e : acS a = nI 1 := if_pos hev
      have eF : acF v t a = vAd v (mqI t a * 8 + 0) := if_pos hev
      rw [e]
      refine ⟨fun q => absurd q (by decide), fun _ => ?_⟩
      refine ⟨by decide, ?_⟩
      refine ⟨⟨by omega, by omega⟩, v, C, [], rfl, hPW, ⟨t, a % 4, 0, by rw [rem4 ha], ht, by omega, by omega, fun C hPW => ?_⟩⟩
      exact ⟨C, hPW, by first | rw [eF] | rw [e, eF], rfl, by omega, by omega⟩
    · have e : acS a = nI 0 := if_neg hev
      have eF : acF v t a = -1 := if_neg hev
      rw [e]
      refine ⟨fun _ => ?_, fun q => absurd (by decide) q⟩
      exact ⟨C, hPW, by first | rw [eF] | rw [e, eF], rfl, by omega, by omega⟩
  refine g_cut (X := X) 53 [0, 1, 2, 3, 4, 5, 6, 7] (fun vs es k n => ∃ (C : List gE), PW v C ∧ vs = [.ref 0, .int (nI t), .int (nI a), .int (acS a), .int (nI (acR v t a)), .int (vcR v t a), .int (fdR (vHd v) t a), .int (nI (acP v t a))] ∧ es = C ++ [] ∧ k ≤ 36 ∧ n ≤ 216) hc73 (fun vs es k n hI => ?_) (fun hc53 => ?_)
  · obtain ⟨C, hPW, rfl, rfl, hkk, hnn⟩ := hI
    refine g_go hf hc73 30 ?_
    refine ⟨fun q => ?_, fun q => ?_⟩
    · have q : nI 8 ≤ nI (acP v t a) := q
      rw [nI_leI (by decide) (by omega)] at q
      have eG : acG v t a = nI 0 := if_neg (by omega)
      exact ⟨C, hPW, by rw [eG], rfl, by omega, by omega⟩
    · have q : ¬ nI 8 ≤ nI (acP v t a) := q
      rw [nI_leI (by decide) (by omega)] at q
      have eG : acG v t a = vGa v (t * 8 + acP v t a) := if_pos (by omega)
      refine ⟨⟨by omega, by omega⟩, v, C, [], rfl, hPW, ⟨t, acP v t a, rfl, ht, by omega, fun C hPW => ?_⟩⟩
      exact ⟨C, hPW, by rw [eG], rfl, by omega, by omega⟩
  refine g_cut (X := X) 12 [0, 1, 2, 3] (fun vs es k n => ∃ (C : List gE), PW v C ∧ vs = [.ref 0, .int (nI t), .int (nI a), .int (acS a)] ∧ es = C ++ [] ∧ k = 0 ∧ n = 0) hc53 (fun vs es k n hI => ?_) (fun hc12 => ?_)
  · obtain ⟨C, hPW, rfl, rfl, rfl, rfl⟩ := hI
    refine g_go hf hc53 30 ?_
    refine ⟨⟨by omega, by omega⟩, v, C, [], rfl, hPW, ⟨t, a, rfl, ht, by omega, fun C hPW => ?_⟩⟩
    refine ⟨⟨by omega, by omega⟩, v, C, [], rfl, hPW, ⟨t, a, rfl, ht, by omega, fun C hPW => ?_⟩⟩
    refine ⟨⟨by omega, by omega⟩, v, C, [], rfl, hPW, ⟨t, a, rfl, ht, ha, hU, fun C hPW => ?_⟩⟩
    by_cases hev : a % 2 = 0
    · have e : acS a = nI 1 := if_pos hev
      have eP : acP v t a = psN (vAd v) (mqI t a) a := if_pos hev
      rw [e]
      refine ⟨fun q => absurd q (by decide), fun _ => ?_⟩
      refine ⟨⟨by omega, by omega⟩, v, C, [], rfl, hPW, ⟨t, a, rfl, ht, ha, hev, fun C hPW => ?_⟩⟩
      exact ⟨C, hPW, by first | rw [eP] | rw [e, eP], rfl, by omega, by omega⟩
    · have e : acS a = nI 0 := if_neg hev
      have eP : acP v t a = 9 := if_neg hev
      rw [e]
      refine ⟨fun _ => ?_, fun q => absurd (by decide) q⟩
      exact ⟨C, hPW, by first | rw [eP] | rw [e, eP], rfl, by omega, by omega⟩
  refine wr_ok hf hc12 30 0 _ _ _ _ _ ?_
  refine ⟨by decide, ?_⟩
  rw [rem2 ha]
  refine ⟨fun q => ?_, fun q => ?_⟩
  · have hev : ¬ a % 2 = 0 := fun z => q (by rw [z]; rfl)
    have e : acS a = nI 0 := if_neg hev
    exact ⟨es, hPW, by rw [e], rfl, rfl, rfl⟩
  · have hev : a % 2 = 0 := nI_inj (q.trans nI_0.symm) (by omega) (by omega)
    have e : acS a = nI 1 := if_pos hev
    exact ⟨es, hPW, by rw [e], rfl, rfl, rfl⟩
end LH4

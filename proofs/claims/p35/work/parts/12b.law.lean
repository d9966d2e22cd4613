/-! The law's body. -/
section LG2
def lawX (X : gX) (l : Launch) (b Ls : Nat) (xs : Nat → Int32) : Prop := gM X l code RL wsL_law room_1 ∧ gSc X b Ls xs 1999 ∧ gLE X ∧ l.stackTraces = false ∧ X.2.2.2.2.2.2.2.2.2.2.2.2.2.2.2.2 = 12
def q_law : List (Nat × gO) := [(10, oFR 0 (oILoad 2)), (11, oConst (nI 110)), (13, oICmp_ge 525), (16, oALoad 0), (17, oConst (nI 2)), (18, oILoad 2), (19, oMul), (20, oCell 600104 7301314), (23, oIStore 12 3), (24, oFR 0 (oALoad 0)), (25, oConst (nI 2)), (26, oILoad 2), (27, oMul), (28, oConst (nI 1)), (29, oAdd), (30, oCell 600104 7301314), (33, oIStore 12 4), (35, oFR 0 (oILoad 3)), (36, oConst (nI 5)), (37, oShr), (38, oILoad 3), (39, oConst (nI 7)), (41, oShr), (42, oConst (nI 3)), (43, oPS 600104 7301314 0 0 2 s_low), (46, oIf_ne 53), (49, oConst (nI 4)), (50, oGoto 54), (53, oConst (nI 2)), (54, oPS 600104 7301314 0 0 2 s_low), (57, oIStore 12 5), (59, oFR 0 (oILoad 3)), (60, oConst (nI 24)), (62, oPS 600104 7301314 0 0 2 s_low), (65, oIStore 12 6), (67, oFR 0 (oILoad 4)), (69, oILoad 4), (71, oConst (nI 9)), (73, oShr), (74, oConst (nI 3)), (75, oPS 600104 7301314 0 0 2 s_low), (78, oIf_ne 87), (81, oConst (nI 256)), (84, oGoto 106), (87, oILoad 4), (89, oConst (nI 11)), (91, oShr), (92, oConst (nI 2)), (93, oPS 600104 7301314 0 0 2 s_low), (96, oIf_ne 104), (99, oConst (nI 24)), (101, oGoto 106), (104, oConst (nI 60)), (106, oPS 600104 7301314 0 0 2 s_low), (109, oIStore 12 7), (111, oConst (nI 1)), (112, oFR 0 (oIStore 12 8)), (114, oFR 0 (oILoad 6)), (116, oConst (nI 16)), (118, oICmp_ge 134), (121, oALoad 1), (122, oILoad 5), (124, oILoad 7), (126, oPS 600104 7301314 200 1200 3 s_accesses), (129, oIStore 12 8), (131, oGoto 499), (134, oFR 0 (oILoad 6)), (136, oConst (nI 16)), (138, oICmp_ne 199), (141, oALoad 1), (142, oILoad 5), (144, oConst (nI 0)), (145, oPX 600104 7301314 1 6 2 p_lines), (148, oIStore 12 9), (150, oFR 0 (oALoad 1)), (151, oPS 600104 7301314 4 24 1 s_all), (154, oIStore 12 10), (156, oFR 0 (oALoad 1)), (157, oILoad 5), (159, oPX 600104 7301314 1 6 1 p_flush), (162, oILoad 9), (164, oICmp_ne 193), (167, oALoad 1), (168, oILoad 5), (170, oConst (nI 1)), (171, oPX 600104 7301314 1 6 2 p_lines), (174, oIf_ne 193), (177, oALoad 1), (178, oPS 600104 7301314 4 24 1 s_all), (181, oILoad 10), (183, oILoad 9), (185, oSub), (186, oICmp_ne 193), (189, oConst (nI 1)), (190, oGoto 194), (193, oConst (nI 0)), (194, oIStore 12 8), (196, oGoto 499), (199, oFR 0 (oILoad 6)), (201, oConst (nI 20)), (203, oICmp_ge 215), (206, oALoad 1), (207, oPS 600104 7301314 60 400 1 s_moves), (210, oIStore 12 8), (212, oGoto 499), (215, oFR 0 (oILoad 6)), (217, oConst (nI 20)), (219, oICmp_ne 279), (222, oALoad 1), (223, oILoad 4), (225, oConst (nI 8)), (227, oPS 600104 7301314 0 0 2 s_low), (230, oPX 600104 7301314 1 6 1 p_owner), (233, oIStore 12 9), (235, oFR 0 (oALoad 1)), (236, oILoad 4), (238, oConst (nI 8)), (240, oPS 600104 7301314 0 0 2 s_low), (243, oILoad 5), (245, oPX 600104 7301314 2 12 2 p_giveWay), (248, oILoad 9), (250, oICmp_ne 273), (253, oALoad 1), (254, oILoad 4), (256, oConst (nI 8)), (258, oPS 600104 7301314 0 0 2 s_low), (261, oPX 600104 7301314 1 6 1 p_owner), (264, oILoad 5), (266, oICmp_ne 273), (269, oConst (nI 1)), (270, oGoto 274), (273, oConst (nI 0)), (274, oIStore 12 8), (276, oGoto 499), (279, oFR 0 (oILoad 6)), (281, oConst (nI 21)), (283, oICmp_ne 326), (286, oALoad 1), (287, oILoad 5), (289, oILoad 4), (291, oConst (nI 3)), (292, oPS 600104 7301314 0 0 2 s_low), (295, oPX 600104 7301314 2 12 2 p_setLeast), (298, oIf_lt 320), (301, oALoad 1), (302, oILoad 5), (304, oPX 600104 7301314 1 6 1 p_target), (307, oILoad 4), (309, oConst (nI 3)), (310, oPS 600104 7301314 0 0 2 s_low), (313, oICmp_lt 320), (316, oConst (nI 1)), (317, oGoto 321), (320, oConst (nI 0)), (321, oIStore 12 8), (323, oGoto 499), (326, oFR 0 (oILoad 6)), (328, oConst (nI 22)), (330, oICmp_ne 417), (333, oALoad 1), (334, oConst (nI 0)), (335, oPS 600104 7301314 16 96 2 s_gains), (338, oConst (nI 2)), (339, oDiv), (340, oALoad 1), (341, oConst (nI 1)), (342, oPS 600104 7301314 16 96 2 s_gains), (345, oConst (nI 2)), (346, oDiv), (347, oAdd), (348, oALoad 1), (349, oConst (nI 2)), (350, oPS 600104 7301314 16 96 2 s_gains), (353, oConst (nI 2)), (354, oDiv), (355, oAdd), (356, oALoad 1), (357, oConst (nI 3)), (358, oPS 600104 7301314 16 96 2 s_gains), (361, oConst (nI 2)), (362, oDiv), (363, oAdd), (364, oIStore 12 9), (366, oFR 0 (oALoad 1)), (367, oPV 600104 7301314 0 p_halveGains), (370, oIStore 12 10), (372, oFR 0 (oILoad 10)), (374, oILoad 9), (376, oICmp_gt 411), (379, oILoad 10), (381, oALoad 1), (382, oConst (nI 0)), (383, oPS 600104 7301314 16 96 2 s_gains), (386, oALoad 1), (387, oConst (nI 1)), (388, oPS 600104 7301314 16 96 2 s_gains), (391, oAdd), (392, oALoad 1), (393, oConst (nI 2)), (394, oPS 600104 7301314 16 96 2 s_gains), (397, oAdd), (398, oALoad 1), (399, oConst (nI 3)), (400, oPS 600104 7301314 16 96 2 s_gains), (403, oAdd), (404, oICmp_ne 411), (407, oConst (nI 1)), (408, oGoto 412), (411, oConst (nI 0)), (412, oIStore 12 8), (414, oGoto 499), (417, oFR 0 (oALoad 1)), (418, oPV 600104 7301314 0 p_accesses), (421, oIStore 12 9), (423, oFR 0 (oALoad 1)), (424, oILoad 5), (426, oConst (nI 1)), (427, oPX 600104 7301314 2 12 2 p_count), (430, oIStore 12 10), (432, oConst (nI 1)), (433, oFR 0 (oILoad 4)), (435, oConst (nI 13)), (437, oShr), (438, oConst (nI 40)), (440, oPS 600104 7301314 0 0 2 s_low), (443, oAdd), (444, oIStore 12 11), (446, oFR 0 (oALoad 1)), (447, oILoad 5), (449, oILoad 7), (451, oConst (nI 1)), (452, oILoad 4), (454, oConst (nI 5)), (455, oShr), (456, oConst (nI 64)), (458, oPS 600104 7301314 0 0 2 s_low), (461, oAdd), (462, oILoad 11), (464, oPX 600104 7301314 4 24 4 p_stream), (467, oALoad 1), (468, oILoad 5), (470, oConst (nI 1)), (471, oPX 600104 7301314 2 12 2 p_count), (474, oILoad 10), (476, oSub), (477, oICmp_ne 496), (480, oALoad 1), (481, oPV 600104 7301314 0 p_accesses), (484, oILoad 9), (486, oILoad 11), (488, oAdd), (489, oICmp_ne 496), (492, oConst (nI 1)), (493, oGoto 497), (496, oConst (nI 0)), (497, oIStore 12 8), (499, oFR 0 (oILoad 8)), (501, oIf_eq 517), (504, oILoad 2), (505, oConst (nI 3)), (506, oRem), (507, oIf_ne 519), (510, oALoad 1), (511, oPS 600104 7301314 900 5400 1 s_fits), (514, oIf_ne 519), (517, oConst (nI 0)), (518, oLEnd), (519, oIInc 12 2 (nI 1)), (522, oGoto 10), (525, oFR 0 (oALoad 1)), (526, oPS 600104 7301314 900 5400 1 s_fits), (529, oIf_eq 545), (532, oALoad 1), (533, oPV 600104 7301314 0 p_savedStates), (536, oConst (nI 6)), (538, oICmp_gt 545), (541, oConst (nI 1)), (542, oGoto 546), (545, oConst (nI 0)), (546, oLEnd)]
set_option maxRecDepth 100000 in
theorem kq_law {X : gX} {l : Launch} {b Ls : Nat} {xs : Nat → Int32} (h : lawX X l b Ls xs) : okL X q_law := by
  obtain ⟨hM, hSc, hLE, hl, hnL⟩ := h
  obtain ⟨p, l1, e, R, s, m, args, below, meth, c, D, cA, A, ag, ad0, Q, nL⟩ := X
  cases hnL
  refine ⟨ok_FR (ok_iload_n hM 2 dL_law_10 rfl),
    ok_bipush hM dL_law_11 rfl,
    ok_icmp_ge hM 525 dL_law_13 (by decide),
    ok_aload_n hM 0 dL_law_16 rfl,
    ok_iconst hM dL_law_17 rfl,
    ok_iload_n hM 2 dL_law_18 rfl,
    ok_imul hM dL_law_19,
    ok_cell hM hSc (ctL_cell l) gL_law_L_cell rfl rfl rfl (by decide +kernel) (by decide) dL_law_20,
    ok_istore_n hM 3 dL_law_23 rfl,
    ok_FR (ok_aload_n hM 0 dL_law_24 rfl),
    ok_iconst hM dL_law_25 rfl,
    ok_iload_n hM 2 dL_law_26 rfl,
    ok_imul hM dL_law_27,
    ok_iconst hM dL_law_28 rfl,
    ok_iadd hM dL_law_29,
    ok_cell hM hSc (ctL_cell l) gL_law_L_cell rfl rfl rfl (by decide +kernel) (by decide) dL_law_30,
    ok_istore hM 4 dL_law_33,
    ok_FR (ok_iload_n hM 3 dL_law_35 rfl),
    ok_iconst hM dL_law_36 rfl,
    ok_ishr hM dL_law_37,
    ok_iload_n hM 3 dL_law_38 rfl,
    ok_bipush hM dL_law_39 rfl,
    ok_ishr hM dL_law_41,
    ok_iconst hM dL_law_42 rfl,
    ok_PS hM (ctL_low l hl) gL_law_L_low rfl rfl rfl (by decide +kernel) (by decide) dL_law_43,
    ok_if_ne hM 53 dL_law_46 (by decide),
    ok_iconst hM dL_law_49 rfl,
    ok_goto hM 54 dL_law_50 (by decide),
    ok_iconst hM dL_law_53 rfl,
    ok_PS hM (ctL_low l hl) gL_law_L_low rfl rfl rfl (by decide +kernel) (by decide) dL_law_54,
    ok_istore hM 5 dL_law_57,
    ok_FR (ok_iload_n hM 3 dL_law_59 rfl),
    ok_bipush hM dL_law_60 rfl,
    ok_PS hM (ctL_low l hl) gL_law_L_low rfl rfl rfl (by decide +kernel) (by decide) dL_law_62,
    ok_istore hM 6 dL_law_65,
    ok_FR (ok_iload hM 4 dL_law_67),
    ok_iload hM 4 dL_law_69,
    ok_bipush hM dL_law_71 rfl,
    ok_ishr hM dL_law_73,
    ok_iconst hM dL_law_74 rfl,
    ok_PS hM (ctL_low l hl) gL_law_L_low rfl rfl rfl (by decide +kernel) (by decide) dL_law_75,
    ok_if_ne hM 87 dL_law_78 (by decide),
    ok_sipush hM dL_law_81 rfl,
    ok_goto hM 106 dL_law_84 (by decide),
    ok_iload hM 4 dL_law_87,
    ok_bipush hM dL_law_89 rfl,
    ok_ishr hM dL_law_91,
    ok_iconst hM dL_law_92 rfl,
    ok_PS hM (ctL_low l hl) gL_law_L_low rfl rfl rfl (by decide +kernel) (by decide) dL_law_93,
    ok_if_ne hM 104 dL_law_96 (by decide),
    ok_bipush hM dL_law_99 rfl,
    ok_goto hM 106 dL_law_101 (by decide),
    ok_bipush hM dL_law_104 rfl,
    ok_PS hM (ctL_low l hl) gL_law_L_low rfl rfl rfl (by decide +kernel) (by decide) dL_law_106,
    ok_istore hM 7 dL_law_109,
    ok_iconst hM dL_law_111 rfl,
    ok_FR (ok_istore hM 8 dL_law_112),
    ok_FR (ok_iload hM 6 dL_law_114),
    ok_bipush hM dL_law_116 rfl,
    ok_icmp_ge hM 134 dL_law_118 (by decide),
    ok_aload_n hM 1 dL_law_121 rfl,
    ok_iload hM 5 dL_law_122,
    ok_iload hM 7 dL_law_124,
    ok_PS hM (ctL_accesses l hl) gL_law_L_accesses rfl rfl rfl (by decide +kernel) (by decide) dL_law_126,
    ok_istore hM 8 dL_law_129,
    ok_goto hM 499 dL_law_131 (by decide),
    ok_FR (ok_iload hM 6 dL_law_134),
    ok_bipush hM dL_law_136 rfl,
    ok_icmp_ne hM 199 dL_law_138 (by decide),
    ok_aload_n hM 1 dL_law_141 rfl,
    ok_iload hM 5 dL_law_142,
    ok_iconst hM dL_law_144 rfl,
    ok_PX hM (cx_lines l hl) gL_law_X6_lines rfl rfl rfl (by decide +kernel) (by decide) dL_law_145,
    ok_istore hM 9 dL_law_148,
    ok_FR (ok_aload_n hM 1 dL_law_150 rfl),
    ok_PS hM (ctL_all l hl) gL_law_L_all rfl rfl rfl (by decide +kernel) (by decide) dL_law_151,
    ok_istore hM 10 dL_law_154,
    ok_FR (ok_aload_n hM 1 dL_law_156 rfl),
    ok_iload hM 5 dL_law_157,
    ok_PX hM (cx_flush l hl) gL_law_X6_flush rfl rfl rfl (by decide +kernel) (by decide) dL_law_159,
    ok_iload hM 9 dL_law_162,
    ok_icmp_ne hM 193 dL_law_164 (by decide),
    ok_aload_n hM 1 dL_law_167 rfl,
    ok_iload hM 5 dL_law_168,
    ok_iconst hM dL_law_170 rfl,
    ok_PX hM (cx_lines l hl) gL_law_X6_lines rfl rfl rfl (by decide +kernel) (by decide) dL_law_171,
    ok_if_ne hM 193 dL_law_174 (by decide),
    ok_aload_n hM 1 dL_law_177 rfl,
    ok_PS hM (ctL_all l hl) gL_law_L_all rfl rfl rfl (by decide +kernel) (by decide) dL_law_178,
    ok_iload hM 10 dL_law_181,
    ok_iload hM 9 dL_law_183,
    ok_isub hM dL_law_185,
    ok_icmp_ne hM 193 dL_law_186 (by decide),
    ok_iconst hM dL_law_189 rfl,
    ok_goto hM 194 dL_law_190 (by decide),
    ok_iconst hM dL_law_193 rfl,
    ok_istore hM 8 dL_law_194,
    ok_goto hM 499 dL_law_196 (by decide),
    ok_FR (ok_iload hM 6 dL_law_199),
    ok_bipush hM dL_law_201 rfl,
    ok_icmp_ge hM 215 dL_law_203 (by decide),
    ok_aload_n hM 1 dL_law_206 rfl,
    ok_PS hM (ctL_moves l hl) gL_law_L_moves rfl rfl rfl (by decide +kernel) (by decide) dL_law_207,
    ok_istore hM 8 dL_law_210,
    ok_goto hM 499 dL_law_212 (by decide),
    ok_FR (ok_iload hM 6 dL_law_215),
    ok_bipush hM dL_law_217 rfl,
    ok_icmp_ne hM 279 dL_law_219 (by decide),
    ok_aload_n hM 1 dL_law_222 rfl,
    ok_iload hM 4 dL_law_223,
    ok_bipush hM dL_law_225 rfl,
    ok_PS hM (ctL_low l hl) gL_law_L_low rfl rfl rfl (by decide +kernel) (by decide) dL_law_227,
    ok_PX hM (cx_owner l hl) gL_law_X6_owner rfl rfl rfl (by decide +kernel) (by decide) dL_law_230,
    ok_istore hM 9 dL_law_233,
    ok_FR (ok_aload_n hM 1 dL_law_235 rfl),
    ok_iload hM 4 dL_law_236,
    ok_bipush hM dL_law_238 rfl,
    ok_PS hM (ctL_low l hl) gL_law_L_low rfl rfl rfl (by decide +kernel) (by decide) dL_law_240,
    ok_iload hM 5 dL_law_243,
    ok_PX hM (cx_giveWay l hl) gL_law_X6_giveWay rfl rfl rfl (by decide +kernel) (by decide) dL_law_245,
    ok_iload hM 9 dL_law_248,
    ok_icmp_ne hM 273 dL_law_250 (by decide),
    ok_aload_n hM 1 dL_law_253 rfl,
    ok_iload hM 4 dL_law_254,
    ok_bipush hM dL_law_256 rfl,
    ok_PS hM (ctL_low l hl) gL_law_L_low rfl rfl rfl (by decide +kernel) (by decide) dL_law_258,
    ok_PX hM (cx_owner l hl) gL_law_X6_owner rfl rfl rfl (by decide +kernel) (by decide) dL_law_261,
    ok_iload hM 5 dL_law_264,
    ok_icmp_ne hM 273 dL_law_266 (by decide),
    ok_iconst hM dL_law_269 rfl,
    ok_goto hM 274 dL_law_270 (by decide),
    ok_iconst hM dL_law_273 rfl,
    ok_istore hM 8 dL_law_274,
    ok_goto hM 499 dL_law_276 (by decide),
    ok_FR (ok_iload hM 6 dL_law_279),
    ok_bipush hM dL_law_281 rfl,
    ok_icmp_ne hM 326 dL_law_283 (by decide),
    ok_aload_n hM 1 dL_law_286 rfl,
    ok_iload hM 5 dL_law_287,
    ok_iload hM 4 dL_law_289,
    ok_iconst hM dL_law_291 rfl,
    ok_PS hM (ctL_low l hl) gL_law_L_low rfl rfl rfl (by decide +kernel) (by decide) dL_law_292,
    ok_PX hM (cx_setLeast l hl) gL_law_X6_setLeast rfl rfl rfl (by decide +kernel) (by decide) dL_law_295,
    ok_if_lt hM 320 dL_law_298 (by decide),
    ok_aload_n hM 1 dL_law_301 rfl,
    ok_iload hM 5 dL_law_302,
    ok_PX hM (cx_target l hl) gL_law_X6_target rfl rfl rfl (by decide +kernel) (by decide) dL_law_304,
    ok_iload hM 4 dL_law_307,
    ok_iconst hM dL_law_309 rfl,
    ok_PS hM (ctL_low l hl) gL_law_L_low rfl rfl rfl (by decide +kernel) (by decide) dL_law_310,
    ok_icmp_lt hM 320 dL_law_313 (by decide),
    ok_iconst hM dL_law_316 rfl,
    ok_goto hM 321 dL_law_317 (by decide),
    ok_iconst hM dL_law_320 rfl,
    ok_istore hM 8 dL_law_321,
    ok_goto hM 499 dL_law_323 (by decide),
    ok_FR (ok_iload hM 6 dL_law_326),
    ok_bipush hM dL_law_328 rfl,
    ok_icmp_ne hM 417 dL_law_330 (by decide),
    ok_aload_n hM 1 dL_law_333 rfl,
    ok_iconst hM dL_law_334 rfl,
    ok_PS hM (ctL_gains l hl) gL_law_L_gains rfl rfl rfl (by decide +kernel) (by decide) dL_law_335,
    ok_iconst hM dL_law_338 rfl,
    ok_idiv hM dL_law_339,
    ok_aload_n hM 1 dL_law_340 rfl,
    ok_iconst hM dL_law_341 rfl,
    ok_PS hM (ctL_gains l hl) gL_law_L_gains rfl rfl rfl (by decide +kernel) (by decide) dL_law_342,
    ok_iconst hM dL_law_345 rfl,
    ok_idiv hM dL_law_346,
    ok_iadd hM dL_law_347,
    ok_aload_n hM 1 dL_law_348 rfl,
    ok_iconst hM dL_law_349 rfl,
    ok_PS hM (ctL_gains l hl) gL_law_L_gains rfl rfl rfl (by decide +kernel) (by decide) dL_law_350,
    ok_iconst hM dL_law_353 rfl,
    ok_idiv hM dL_law_354,
    ok_iadd hM dL_law_355,
    ok_aload_n hM 1 dL_law_356 rfl,
    ok_iconst hM dL_law_357 rfl,
    ok_PS hM (ctL_gains l hl) gL_law_L_gains rfl rfl rfl (by decide +kernel) (by decide) dL_law_358,
    ok_iconst hM dL_law_361 rfl,
    ok_idiv hM dL_law_362,
    ok_iadd hM dL_law_363,
    ok_istore hM 9 dL_law_364,
    ok_FR (ok_aload_n hM 1 dL_law_366 rfl),
    ok_PV hM (cx_halveGains l) gL_law_X6_halveGains rfl rfl rfl (by decide +kernel) (by decide) dL_law_367,
    ok_istore hM 10 dL_law_370,
    ok_FR (ok_iload hM 10 dL_law_372),
    ok_iload hM 9 dL_law_374,
    ok_icmp_gt hM 411 dL_law_376 (by decide),
    ok_iload hM 10 dL_law_379,
    ok_aload_n hM 1 dL_law_381 rfl,
    ok_iconst hM dL_law_382 rfl,
    ok_PS hM (ctL_gains l hl) gL_law_L_gains rfl rfl rfl (by decide +kernel) (by decide) dL_law_383,
    ok_aload_n hM 1 dL_law_386 rfl,
    ok_iconst hM dL_law_387 rfl,
    ok_PS hM (ctL_gains l hl) gL_law_L_gains rfl rfl rfl (by decide +kernel) (by decide) dL_law_388,
    ok_iadd hM dL_law_391,
    ok_aload_n hM 1 dL_law_392 rfl,
    ok_iconst hM dL_law_393 rfl,
    ok_PS hM (ctL_gains l hl) gL_law_L_gains rfl rfl rfl (by decide +kernel) (by decide) dL_law_394,
    ok_iadd hM dL_law_397,
    ok_aload_n hM 1 dL_law_398 rfl,
    ok_iconst hM dL_law_399 rfl,
    ok_PS hM (ctL_gains l hl) gL_law_L_gains rfl rfl rfl (by decide +kernel) (by decide) dL_law_400,
    ok_iadd hM dL_law_403,
    ok_icmp_ne hM 411 dL_law_404 (by decide),
    ok_iconst hM dL_law_407 rfl,
    ok_goto hM 412 dL_law_408 (by decide),
    ok_iconst hM dL_law_411 rfl,
    ok_istore hM 8 dL_law_412,
    ok_goto hM 499 dL_law_414 (by decide),
    ok_FR (ok_aload_n hM 1 dL_law_417 rfl),
    ok_PV hM (cx_accesses l) gL_law_X6_accesses rfl rfl rfl (by decide +kernel) (by decide) dL_law_418,
    ok_istore hM 9 dL_law_421,
    ok_FR (ok_aload_n hM 1 dL_law_423 rfl),
    ok_iload hM 5 dL_law_424,
    ok_iconst hM dL_law_426 rfl,
    ok_PX hM (cx_count l hl) gL_law_X6_count rfl rfl rfl (by decide +kernel) (by decide) dL_law_427,
    ok_istore hM 10 dL_law_430,
    ok_iconst hM dL_law_432 rfl,
    ok_FR (ok_iload hM 4 dL_law_433),
    ok_bipush hM dL_law_435 rfl,
    ok_ishr hM dL_law_437,
    ok_bipush hM dL_law_438 rfl,
    ok_PS hM (ctL_low l hl) gL_law_L_low rfl rfl rfl (by decide +kernel) (by decide) dL_law_440,
    ok_iadd hM dL_law_443,
    ok_istore hM 11 dL_law_444,
    ok_FR (ok_aload_n hM 1 dL_law_446 rfl),
    ok_iload hM 5 dL_law_447,
    ok_iload hM 7 dL_law_449,
    ok_iconst hM dL_law_451 rfl,
    ok_iload hM 4 dL_law_452,
    ok_iconst hM dL_law_454 rfl,
    ok_ishr hM dL_law_455,
    ok_bipush hM dL_law_456 rfl,
    ok_PS hM (ctL_low l hl) gL_law_L_low rfl rfl rfl (by decide +kernel) (by decide) dL_law_458,
    ok_iadd hM dL_law_461,
    ok_iload hM 11 dL_law_462,
    ok_PX hM (cx_stream l hl) gL_law_X6_stream rfl rfl rfl (by decide +kernel) (by decide) dL_law_464,
    ok_aload_n hM 1 dL_law_467 rfl,
    ok_iload hM 5 dL_law_468,
    ok_iconst hM dL_law_470 rfl,
    ok_PX hM (cx_count l hl) gL_law_X6_count rfl rfl rfl (by decide +kernel) (by decide) dL_law_471,
    ok_iload hM 10 dL_law_474,
    ok_isub hM dL_law_476,
    ok_icmp_ne hM 496 dL_law_477 (by decide),
    ok_aload_n hM 1 dL_law_480 rfl,
    ok_PV hM (cx_accesses l) gL_law_X6_accesses rfl rfl rfl (by decide +kernel) (by decide) dL_law_481,
    ok_iload hM 9 dL_law_484,
    ok_iload hM 11 dL_law_486,
    ok_iadd hM dL_law_488,
    ok_icmp_ne hM 496 dL_law_489 (by decide),
    ok_iconst hM dL_law_492 rfl,
    ok_goto hM 497 dL_law_493 (by decide),
    ok_iconst hM dL_law_496 rfl,
    ok_istore hM 8 dL_law_497,
    ok_FR (ok_iload hM 8 dL_law_499),
    ok_if_eq hM 517 dL_law_501 (by decide),
    ok_iload_n hM 2 dL_law_504 rfl,
    ok_iconst hM dL_law_505 rfl,
    ok_irem hM dL_law_506,
    ok_if_ne hM 519 dL_law_507 (by decide),
    ok_aload_n hM 1 dL_law_510 rfl,
    ok_PS hM (ctL_fits l hl) gL_law_L_fits rfl rfl rfl (by decide +kernel) (by decide) dL_law_511,
    ok_if_ne hM 519 dL_law_514 (by decide),
    ok_iconst hM dL_law_517 rfl,
    ok_lend hLE dL_law_518,
    ok_iinc hM 2 dL_law_519 rfl,
    ok_goto hM 10 dL_law_522 (by decide),
    ok_FR (ok_aload_n hM 1 dL_law_525 rfl),
    ok_PS hM (ctL_fits l hl) gL_law_L_fits rfl rfl rfl (by decide +kernel) (by decide) dL_law_526,
    ok_if_eq hM 545 dL_law_529 (by decide),
    ok_aload_n hM 1 dL_law_532 rfl,
    ok_PV hM (cx_savedStates l) gL_law_X6_savedStates rfl rfl rfl (by decide +kernel) (by decide) dL_law_533,
    ok_bipush hM dL_law_536 rfl,
    ok_icmp_gt hM 545 dL_law_538 (by decide),
    ok_iconst hM dL_law_541 rfl,
    ok_goto hM 546 dL_law_542 (by decide),
    ok_iconst hM dL_law_545 rfl,
    ok_lend hLE dL_law_546,
    trivial⟩
theorem lfv_up (v : gV) {t q : Nat} (hq : q ≤ 2) : lfv (vOw v, vHd v, vSt v, vAd v, vGa v, upd (vLe v) t (nI q), vCo v, vEp v, vAc v) t = q := by
  show (upd (vLe v) t (nI q) t).toNatClampNeg = q
  rw [pk_us]
  exact nI_clamp (by omega)
/-- behind an act -/
def lwQ (i : Nat) : List Value → List gE → Nat → Nat → Prop := fun vs es k n => ∃ (v : gV) (C : List gE), PW v C ∧ pV v (40 * i + 40) ∧ vs = [.ref 1999, .ref 0, .int (nI i), .int (nI 1)] ∧ es = C ++ [] ∧ k ≤ 200 + 1200 * i + 260 ∧ n ≤ 5000 + 7200 * i + 1560
/-- ahead of an act -/
def lwP (i : Nat) : List Value → List gE → Nat → Nat → Prop := fun vs es k n => ∃ (v : gV) (C : List gE) (g h : Int32) (t w a : Nat), i < 110 ∧ t < 4 ∧ w < 24 ∧ a < 256 ∧ PW v C ∧ pV v (40 * i) ∧ vs = [.ref 1999, .ref 0, .int (nI i), .int g, .int h, .int (nI t), .int (nI w), .int (nI a)] ∧ es = C ++ [] ∧ k ≤ 200 + 1200 * i ∧ n ≤ 5000 + 7200 * i
abbrev lwK : List Nat := [0, 1, 2, 8]
set_option maxRecDepth 100000 in
theorem law_act {X : gX} {l : Launch} {b Ls : Nat} {xs : Nat → Int32} (h : lawX X l b Ls xs) {i : Nat} (hc : cutOK X [(499, lwK, lwQ i)]) : ∀ vs es k n, lwP i vs es k n → G X 111 ([0, 1, 2, 3, 4, 5, 6, 7].zip vs) [] es k n := by
  intro vs es k n hp
  have hf := kq_law h
  obtain ⟨v, C, g, hh, t, w, a, hi, ht, hw, ha, hPW, hV, rfl, rfl, hkk, hnn⟩ := hp
  obtain ⟨hk, hS, hU, hM, hG, hC, hE⟩ := id hV
  have hH := pV_H hV
  refine g_go hf hc 30 ?_
  refine ⟨fun q1 => ?_, fun q1 => ?_⟩
  · have q1 : nI 16 ≤ nI w := q1
    rw [nI_leI (by decide) (by omega)] at q1
    refine ⟨fun q2 => ?_, fun q2 => ?_⟩
    · have h16 : ¬ w = 16 := fun z => q2 (by rw [z])
      refine ⟨fun q3 => ?_, fun q3 => ?_⟩
      · have q3 : nI 20 ≤ nI w := q3
        rw [nI_leI (by decide) (by omega)] at q3
        refine ⟨fun q4 => ?_, fun q4 => ?_⟩
        · have h20 : ¬ w = 20 := fun z => q4 (by rw [z])
          refine ⟨fun q5 => ?_, fun q5 => ?_⟩
          · have h21 : ¬ w = 21 := fun z => q5 (by rw [z])
            refine ⟨fun q6 => ?_, fun q6 => ?_⟩
            · -- a stream
              refine ⟨⟨by omega, by omega⟩, v, C, [], rfl, hPW, ⟨rfl, fun C hPW => ?_⟩⟩
              refine ⟨⟨by omega, by omega⟩, v, C, [], rfl, hPW, ⟨t, 1, rfl, ht, by omega, fun C hPW => ?_⟩⟩
              refine ⟨⟨by omega, by omega⟩, v, C, [], rfl, hPW, ⟨_, 40, rfl, by omega, by omega, fun C hPW => ?_⟩⟩
              have m40 := lowN_lt (hh >>> (nI 13 &&& 31)) (m := 40) (by omega)
              generalize lowN (hh >>> (nI 13 &&& 31)) 40 = m at m40
              refine ⟨⟨by omega, by omega⟩, v, C, [], rfl, hPW, ⟨_, 64, rfl, by omega, by omega, fun C hPW => ?_⟩⟩
              have z64 := lowN_lt (hh >>> (nI 5 &&& 31)) (m := 64) (by omega)
              generalize lowN (hh >>> (nI 5 &&& 31)) 64 = z at z64
              obtain ⟨s1, s2, s3⟩ := st_ok (a := a) (z := 1 + z) hV ht (lfv v) (1 + m)
              refine ⟨⟨by omega, by omega⟩, v, C, [], rfl, hPW, ⟨t, a, 1 + z, 1 + m, by rw [nI_add, nI_add], ht, by omega, by omega, by omega, by omega, by omega, hk, fun C hPW => ?_⟩⟩
              refine ⟨⟨by omega, by omega⟩, _, C, [], rfl, hPW, ⟨t, 1, rfl, ht, by omega, fun C hPW => ?_⟩⟩
              refine ⟨fun q => absurd (by rw [s2, Int32.add_comm, Int32.add_sub_cancel]) q, fun _ => ?_⟩
              refine ⟨⟨by omega, by omega⟩, _, C, [], rfl, hPW, ⟨rfl, fun C hPW => ?_⟩⟩
              refine ⟨fun q => absurd (by rw [s3, nI_add]) q, fun _ => ?_⟩
              exact ⟨_, C, hPW, pV_up s1 (by omega), rfl, rfl, by omega, by omega⟩
            · -- gains halved
              have hB : 40 * i ≤ 10000 := by omega
              have hle := hl_le hG hB
              have hGh := pG_hl hG (by omega)
              have hga := gs_all hGh (by omega)
              refine ⟨⟨by omega, by omega⟩, v, C, [], rfl, hPW, ⟨0, rfl, by decide, fun C hPW => ?_⟩⟩
              refine ⟨by decide, ?_⟩
              refine ⟨⟨by omega, by omega⟩, v, C, [], rfl, hPW, ⟨1, rfl, by decide, fun C hPW => ?_⟩⟩
              refine ⟨by decide, ?_⟩
              refine ⟨⟨by omega, by omega⟩, v, C, [], rfl, hPW, ⟨2, rfl, by decide, fun C hPW => ?_⟩⟩
              refine ⟨by decide, ?_⟩
              refine ⟨⟨by omega, by omega⟩, v, C, [], rfl, hPW, ⟨3, rfl, by decide, fun C hPW => ?_⟩⟩
              refine ⟨by decide, ?_⟩
              refine ⟨⟨by omega, by omega⟩, v, C, [], rfl, hPW, ⟨rfl, fun C hPW => ?_⟩⟩
              refine ⟨fun q => absurd q (Int32.not_lt.mpr hle), fun _ => ?_⟩
              refine ⟨⟨by omega, by omega⟩, _, C, [], rfl, hPW, ⟨0, rfl, by decide, fun C hPW => ?_⟩⟩
              refine ⟨⟨by omega, by omega⟩, _, C, [], rfl, hPW, ⟨1, rfl, by decide, fun C hPW => ?_⟩⟩
              refine ⟨⟨by omega, by omega⟩, _, C, [], rfl, hPW, ⟨2, rfl, by decide, fun C hPW => ?_⟩⟩
              refine ⟨⟨by omega, by omega⟩, _, C, [], rfl, hPW, ⟨3, rfl, by decide, fun C hPW => ?_⟩⟩
              refine ⟨fun q => absurd hga q, fun _ => ?_⟩
              exact ⟨_, C, hPW, pV_up (pV_hl hV (by omega)) (by omega), rfl, rfl, by omega, by omega⟩
          · -- a least number
            refine ⟨⟨by omega, by omega⟩, v, C, [], rfl, hPW, ⟨_, 3, rfl, by omega, by omega, fun C hPW => ?_⟩⟩
            have m3 := lowN_lt hh (m := 3) (by omega)
            have hlo : lowN hh 3 ≤ 2 := by omega
            refine ⟨⟨by omega, by omega⟩, v, C, [], rfl, hPW, ⟨t, lowN hh 3, rfl, ht, hlo, fun C hPW => ?_⟩⟩
            have hV2 := pV_sl hV (t := t) hlo
            have hge := tgt_ge (lfv (vOw v, vHd v, vSt v, vAd v, vGa v, upd (vLe v) t (nI (lowN hh 3)), vCo v, vEp v, vAc v)) (vGa v) t
            rw [lfv_up v hlo] at hge
            have hle8 := tgV_le hV2 ht
            obtain ⟨lv, hlv1, hlv2⟩ := hk.2.2.1 t ht
            refine ⟨fun q => absurd q (by rw [hlv2]; exact nI_pos (by omega)), fun _ => ?_⟩
            refine ⟨⟨by omega, by omega⟩, _, C, [], rfl, hPW, ⟨t, rfl, ht, hV2.1, fun C hPW => ?_⟩⟩
            refine ⟨⟨by omega, by omega⟩, _, C, [], rfl, hPW, ⟨_, 3, rfl, by omega, by omega, fun C hPW => ?_⟩⟩
            refine ⟨fun q => ?_, fun _ => ?_⟩
            · have q : nI (tgV (vOw v, vHd v, vSt v, vAd v, vGa v, upd (vLe v) t (nI (lowN hh 3)), vCo v, vEp v, vAc v) t) < nI (lowN hh 3) := q
              rw [nI_ltI (by omega) (by omega)] at q
              have hge : lowN hh 3 ≤ tgV (vOw v, vHd v, vSt v, vAd v, vGa v, upd (vLe v) t (nI (lowN hh 3)), vCo v, vEp v, vAc v) t := hge
              omega
            exact ⟨_, C, hPW, pV_up hV2 (by omega), rfl, rfl, by omega, by omega⟩
        · -- a way that is given
          have m8 := lowN_lt hh (m := 8) (by omega)
          refine ⟨⟨by omega, by omega⟩, v, C, [], rfl, hPW, ⟨_, 8, rfl, by omega, by omega, fun C hPW => ?_⟩⟩
          refine ⟨⟨by omega, by omega⟩, v, C, [], rfl, hPW, ⟨lowN hh 8, rfl, m8, fun C hPW => ?_⟩⟩
          refine ⟨⟨by omega, by omega⟩, v, C, [], rfl, hPW, ⟨_, 8, rfl, by omega, by omega, fun C hPW => ?_⟩⟩
          refine ⟨⟨by omega, by omega⟩, v, C, [], rfl, hPW, ⟨lowN hh 8, t, rfl, m8, ht, fun C hPW => ?_⟩⟩
          refine ⟨fun q => absurd rfl q, fun _ => ?_⟩
          refine ⟨⟨by omega, by omega⟩, _, C, [], rfl, hPW, ⟨_, 8, rfl, by omega, by omega, fun C hPW => ?_⟩⟩
          refine ⟨⟨by omega, by omega⟩, _, C, [], rfl, hPW, ⟨lowN hh 8, rfl, m8, fun C hPW => ?_⟩⟩
          refine ⟨fun q => absurd (pk_us (f := vOw v) (k := lowN hh 8) (x := nI t)) q, fun _ => ?_⟩
          exact ⟨_, C, hPW, pV_up (pV_gw hV ht) (by omega), rfl, rfl, by omega, by omega⟩
      · -- a way that is moved
        refine ⟨⟨by omega, by omega⟩, v, C, [], rfl, hPW, ⟨40 * i, rfl, hV, fun C hPW => ?_⟩⟩
        exact ⟨_, C, hPW, pV_up (pV_mv hV _) (by omega), rfl, rfl, by omega, by omega⟩
    · -- lines removed
      have e1 : nI (cnt (hol (vHd v) (nI t)) 32) = liR v t (nI 0) := by
        rw [show liR v t (nI 0) = nI (sumN (lnW (vHd v) (nI t)) 8) from li_0 v t, cnt_hol]
      refine ⟨⟨by omega, by omega⟩, v, C, [], rfl, hPW, ⟨t, nI 0, rfl, ht, fun C hPW => ?_⟩⟩
      refine ⟨⟨by omega, by omega⟩, v, C, [], rfl, hPW, ⟨rfl, hH, fun C hPW => ?_⟩⟩
      refine ⟨⟨by omega, by omega⟩, v, C, [], rfl, hPW, ⟨t, rfl, ht, fun C hPW => ?_⟩⟩
      refine ⟨fun q => absurd e1 q, fun _ => ?_⟩
      refine ⟨⟨by omega, by omega⟩, _, C, [], rfl, hPW, ⟨t, nI 1, rfl, ht, fun C hPW => ?_⟩⟩
      refine ⟨fun q => absurd ((li_rm v t (b := nI 1) (by decide)).trans nI_0) q, fun _ => ?_⟩
      refine ⟨⟨by omega, by omega⟩, _, C, [], rfl, hPW, ⟨rfl, pH_rm hH _, fun C hPW => ?_⟩⟩
      refine ⟨fun q => absurd (by rw [← e1]; exact nE_rm _) q, fun _ => ?_⟩
      exact ⟨_, C, hPW, pV_up (pV_rm hV t) (by omega), rfl, rfl, by omega, by omega⟩
  · -- an access
    refine ⟨⟨by omega, by omega⟩, v, C, [], rfl, hPW, ⟨t, a, 40 * i, rfl, ht, ha, hV, fun C hPW => ?_⟩⟩
    exact ⟨_, C, hPW, pV_up (pV_ac hV ht ha) (by omega), rfl, rfl, by omega, by omega⟩
def lwI (μ : Nat) : List Value → List gE → Nat → Nat → Prop := fun vs es k n => ∃ (i : Nat) (v : gV) (C : List gE), μ = 110 - i ∧ i ≤ 110 ∧ PW v C ∧ pV v (40 * i) ∧ vs = [.ref 1999, .ref 0, .int (nI i)] ∧ es = C ++ [] ∧ k ≤ 200 + 1200 * i ∧ n ≤ 5000 + 7200 * i
theorem rem3 {a : Nat} (h : a < 256) : nI a - nI a / nI 3 * nI 3 = nI (a % 3) := pk_rem (by omega) (by decide) (by decide)
set_option maxRecDepth 100000 in
theorem law_loop {X : gX} {l : Launch} {b Ls : Nat} {xs : Nat → Int32} (h : lawX X l b Ls xs) : cutOK X [(10, [0, 1, 2], fun vs es k n => ∃ ν, lwI ν vs es k n)] := by
  have hf := kq_law h
  refine g_loop 10 [0, 1, 2] lwI cut_nil (fun μ hc vs es k n hI => ?_)
  obtain ⟨i, v, C, rfl, hi, hPW, hV, rfl, rfl, hkk, hnn⟩ := hI
  -- behind the act
  refine g_cut (X := X) 499 lwK (fun vs es k n => i < 110 ∧ lwQ i vs es k n) hc (fun vs es k n hq => ?_) (fun hc499 => ?_)
  · obtain ⟨hi1, v, C, hPW, hV, rfl, rfl, hkk, hnn⟩ := hq
    refine g_go hf hc 30 ?_
    refine ⟨fun q => absurd q (by decide), fun _ => ?_⟩
    refine ⟨by decide, ?_⟩
    refine ⟨fun _ => ?_, fun _ => ?_⟩
    · exact ⟨110 - (i + 1), by omega, i + 1, v, C, rfl, by omega, hPW, pV_up hV (by omega), by rw [nI_add], rfl, by omega, by omega⟩
    · refine ⟨⟨by omega, by omega⟩, v, C, [], rfl, hPW, ⟨40 * i + 40, rfl, hV, fun C hPW => ?_⟩⟩
      refine ⟨fun _ => ?_, fun q => absurd q (by decide)⟩
      exact ⟨110 - (i + 1), by omega, i + 1, v, C, rfl, by omega, hPW, pV_up hV (by omega), by rw [nI_add], rfl, by omega, by omega⟩
  by_cases hi1 : i < 110
  · have hc499' : cutOK X ((499, lwK, lwQ i) :: (10, [0, 1, 2], fun vs es k n => ∃ ν, ν < 110 - i ∧ lwI ν vs es k n) :: []) := fun c hm vs es k n hp => by
      rcases List.mem_cons.mp hm with rfl | hm
      · exact hc499 _ List.mem_cons_self vs es k n ⟨hi1, hp⟩
      · exact hc499 c (List.mem_cons_of_mem _ hm) vs es k n hp
    refine g_cut (X := X) 111 [0, 1, 2, 3, 4, 5, 6, 7] (lwP i) hc499' (law_act h (fun c hm vs es k n hp => hc499' c (by rw [List.mem_singleton.mp hm]; exact List.mem_cons_self) vs es k n hp)) (fun hc111 => ?_)
    refine g_cut (X := X) 59 [0, 1, 2, 3, 4, 5] (fun vs es k n => ∃ (C : List gE) (g hh : Int32) (t : Nat), t < 4 ∧ PW v C ∧ vs = [.ref 1999, .ref 0, .int (nI i), .int g, .int hh, .int (nI t)] ∧ es = C ++ [] ∧ k ≤ 200 + 1200 * i ∧ n ≤ 5000 + 7200 * i) hc111 (fun vs es k n hq => ?_) (fun hc59 => ?_)
    · obtain ⟨C, g, hh, t, ht, hPW, rfl, rfl, hkk, hnn⟩ := hq
      refine g_go hf hc111 30 ?_
      refine ⟨⟨by omega, by omega⟩, v, C, [], rfl, hPW, ⟨_, 24, rfl, by omega, by omega, fun C hPW => ?_⟩⟩
      have w24 := lowN_lt g (m := 24) (by omega)
      refine ⟨⟨by omega, by omega⟩, v, C, [], rfl, hPW, ⟨_, 3, rfl, by omega, by omega, fun C hPW => ?_⟩⟩
      refine ⟨fun _ => ?_, fun _ => ?_⟩
      · refine ⟨⟨by omega, by omega⟩, v, C, [], rfl, hPW, ⟨_, 2, rfl, by omega, by omega, fun C hPW => ?_⟩⟩
        refine ⟨fun _ => ?_, fun _ => ?_⟩
        · refine ⟨⟨by omega, by omega⟩, v, C, [], rfl, hPW, ⟨_, 60, rfl, by omega, by omega, fun C hPW => ?_⟩⟩
          have a60 := lowN_lt hh (m := 60) (by omega)
          exact ⟨v, C, g, hh, t, _, _, hi1, ht, w24, by omega, hPW, hV, rfl, rfl, by omega, by omega⟩
        · refine ⟨⟨by omega, by omega⟩, v, C, [], rfl, hPW, ⟨_, 24, rfl, by omega, by omega, fun C hPW => ?_⟩⟩
          have a24 := lowN_lt hh (m := 24) (by omega)
          exact ⟨v, C, g, hh, t, _, _, hi1, ht, w24, by omega, hPW, hV, rfl, rfl, by omega, by omega⟩
      · refine ⟨⟨by omega, by omega⟩, v, C, [], rfl, hPW, ⟨_, 256, rfl, by omega, by omega, fun C hPW => ?_⟩⟩
        have a256 := lowN_lt hh (m := 256) (by omega)
        exact ⟨v, C, g, hh, t, _, _, hi1, ht, w24, a256, hPW, hV, rfl, rfl, by omega, by omega⟩
    refine g_go hf hc59 30 ?_
    refine ⟨fun q => ?_, fun _ => ?_⟩
    · have q : nI 110 ≤ nI i := q
      rw [nI_leI (by decide) (by omega)] at q
      omega
    refine ⟨⟨by omega, by omega⟩, 2 * i, by rw [pk_mul], by omega, fun g => ?_⟩
    refine ⟨⟨by omega, by omega⟩, 2 * i + 1, by rw [pk_mul, nI_add], by omega, fun hh => ?_⟩
    refine ⟨⟨by omega, by omega⟩, v, C, [], rfl, hPW, ⟨_, 3, rfl, by omega, by omega, fun C hPW => ?_⟩⟩
    refine ⟨fun _ => ?_, fun _ => ?_⟩
    · refine ⟨⟨by omega, by omega⟩, v, C, [], rfl, hPW, ⟨_, 2, rfl, by omega, by omega, fun C hPW => ?_⟩⟩
      have t2 := lowN_lt (g >>> (nI 5 &&& 31)) (m := 2) (by omega)
      exact ⟨C, g, hh, _, by omega, hPW, rfl, rfl, by omega, by omega⟩
    · refine ⟨⟨by omega, by omega⟩, v, C, [], rfl, hPW, ⟨_, 4, rfl, by omega, by omega, fun C hPW => ?_⟩⟩
      have t4 := lowN_lt (g >>> (nI 5 &&& 31)) (m := 4) (by omega)
      exact ⟨C, g, hh, _, t4, hPW, rfl, rfl, by omega, by omega⟩
  · have h110 : i = 110 := by omega
    subst h110
    refine g_go hf hc 30 ?_
    refine ⟨fun _ => ?_, fun q => absurd (nI_le (by omega) (by omega)) q⟩
    refine ⟨⟨by omega, by omega⟩, v, C, [], rfl, hPW, ⟨40 * 110, rfl, hV, fun C hPW => ?_⟩⟩
    refine ⟨fun q => absurd q (by decide), fun _ => ?_⟩
    refine ⟨⟨by omega, by omega⟩, v, C, [], rfl, hPW, ⟨rfl, fun s hs => fun C hPW => ?_⟩⟩
    refine ⟨fun q => ?_, fun _ => ?_⟩
    · have q : nI 6 < nI s := q
      rw [nI_ltI (by decide) (by omega)] at q
      omega
    exact ⟨rfl, by omega, by omega⟩
end LG2

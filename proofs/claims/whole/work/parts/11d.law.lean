/-! The law, case by case. -/
section LCS
def lawX (X : gX) (l : Launch) (b Ls : Nat) (xs : Nat → Int32) : Prop := gM X l code RL wsL_law room_1 ∧ gSc X b Ls xs 1999 ∧ gLE X ∧ gXc X ∧ l.stackTraces = false ∧ X.2.2.2.2.2.2.2.2.2.2.2.2.2.2.2.2 = 9
def lwP (Ls j : Nat) : List Value → List gE → Nat → Nat → Prop := fun vs es k n => ∃ c wy f g E th, 5 * j + 5 ≤ Ls ∧ Ls ≤ 2560 ∧ inv c ∧ mW c th E ∧ vs = [.ref 1999, .ref 0, .ref 101, .ref 99, .ref 100, .int (nI (5 * j))] ∧ es = lwE c wy f g (r101 E) ∧ k ≤ 200 + 10 * j ∧ n ≤ 5000 + 60 * j
def lwQ (j : Nat) : List Value → List gE → Nat → Nat → Prop := fun vs es k n => ∃ c wy f g E th, inv c ∧ mW c th E ∧ vs = [.ref 1999, .ref 0, .ref 101, .ref 99, .ref 100, .int (nI (5 * j))] ∧ es = lwE c wy f g (r101 E) ∧ k ≤ 210 + 10 * j ∧ n ≤ 5060 + 60 * j
abbrev lwK : List Nat := [0, 1, 2, 3, 4, 5]
theorem nI_z {k : Nat} (h : nI k = 0) (hk : k ≤ 2) : k = 0 := nI_inj h (by omega) (by omega)
theorem hr_form {c c' : cT} {x : Int32} {ans : UInt64} (h : r_hitRate c x 0 ans c') : ∃ v t, ans = hrR v t := by
  obtain ⟨v, n, ch, H, o, s, sf, z0, z1⟩ := c
  by_cases q : inI x 4
  · obtain ⟨t, ht, e⟩ := q
    exact ⟨v, t, (h.1 t ht e).2.1⟩
  · exact absurd (h.2 q).1 (by decide)
def q_0 (Ls : Nat) (xs : Nat → Int32) : List (Nat × gO) := [(188, oFR 0 (oALoad 1)), (189, oALoad 0), (190, oILoad 5), (192, oConst (nI 1)), (193, oAdd), (194, oSld Ls xs 1999), (195, oALoad 0), (196, oILoad 5), (198, oConst (nI 2)), (199, oAdd), (200, oSld Ls xs 1999), (201, oALoad 3), (202, oLS 601024 7293034 2 12 4 sL_access), (205, oFR 0 (oIStore 9 6)), (207, oALoad 2), (208, oALoad 0), (209, oILoad 5), (211, oConst (nI 1)), (212, oAdd), (213, oSld Ls xs 1999), (214, oALoad 0), (215, oILoad 5), (217, oConst (nI 2)), (218, oAdd), (219, oSld Ls xs 1999), (220, oLM 601024 7293034 2 sX7_access), (223, oFR 0 (oIStore 9 7)), (225, oALoad 2), (226, oLM 601024 7293034 0 s7_thrown), (229, oFR 0 (oILoad 6)), (231, oICmp_eq 236), (234, oConst (nI 0)), (235, oLEnd), (236, oILoad 6), (238, oIf_ne 253), (241, oALoad 3), (242, oConst (nI 0)), (243, oGetL), (244, oILoad 7), (246, oI2L), (247, oLCmp), (248, oIf_eq 253), (251, oConst (nI 0)), (252, oLEnd), (253, oGoto 1786)]
set_option maxRecDepth 100000 in
theorem kq_0 {X : gX} {l : Launch} {b Ls : Nat} {xs : Nat → Int32} (h : lawX X l b Ls xs) : okL X (q_0 Ls xs) := by
  obtain ⟨hM, hSc, hLE, hC9, hl, hnL⟩ := h
  obtain ⟨p, l1, e, R, s, m, args, below, meth, c, D, cA, A, ag, ad0, Q, nL⟩ := X
  cases hnL
  refine ⟨ok_FR (ok_aload_n hM 1 dL_law_188 rfl),
    ok_aload_n hM 0 dL_law_189 rfl,
    ok_iload hM 5 dL_law_190,
    ok_iconst hM dL_law_192 rfl,
    ok_iadd hM dL_law_193,
    ok_sld hM hSc dL_law_194,
    ok_aload_n hM 0 dL_law_195 rfl,
    ok_iload hM 5 dL_law_196,
    ok_iconst hM dL_law_198 rfl,
    ok_iadd hM dL_law_199,
    ok_sld hM hSc dL_law_200,
    ok_aload_n hM 3 dL_law_201 rfl,
    ok_lS hM hC9 (ctL_access l hl) gL_law_L_access rfl rfl rfl (by decide +kernel) (by decide) dL_law_202,
    ok_FR (ok_istore hM 6 dL_law_205),
    ok_aload_n hM 2 dL_law_207 rfl,
    ok_aload_n hM 0 dL_law_208 rfl,
    ok_iload hM 5 dL_law_209,
    ok_iconst hM dL_law_211 rfl,
    ok_iadd hM dL_law_212,
    ok_sld hM hSc dL_law_213,
    ok_aload_n hM 0 dL_law_214 rfl,
    ok_iload hM 5 dL_law_215,
    ok_iconst hM dL_law_217 rfl,
    ok_iadd hM dL_law_218,
    ok_sld hM hSc dL_law_219,
    ok_lM hM (ctX7_access l) gL_law_X7_access rfl rfl rfl (by decide +kernel) (by decide) dL_law_220,
    ok_FR (ok_istore hM 7 dL_law_223),
    ok_aload_n hM 2 dL_law_225 rfl,
    ok_lM hM (c7_thrown l) gL_law_X7_thrown rfl rfl rfl (by decide +kernel) (by decide) dL_law_226,
    ok_FR (ok_iload hM 6 dL_law_229),
    ok_icmp_eq hM 236 dL_law_231 (by decide),
    ok_iconst hM dL_law_234 rfl,
    ok_lend hLE dL_law_235,
    ok_iload hM 6 dL_law_236,
    ok_if_ne hM 253 dL_law_238 (by decide),
    ok_aload_n hM 3 dL_law_241 rfl,
    ok_iconst hM dL_law_242 rfl,
    ok_getL (ok_lald hM dL_law_243),
    ok_iload hM 7 dL_law_244,
    ok_i2l hM dL_law_246,
    ok_lcmp hM dL_law_247,
    ok_if_eq hM 253 dL_law_248 (by decide),
    ok_iconst hM dL_law_251 rfl,
    ok_lend hLE dL_law_252,
    ok_goto hM 1786 dL_law_253 (by decide),
    trivial⟩
theorem case_0 {X : gX} {l : Launch} {b Ls : Nat} {xs : Nat → Int32} (h : lawX X l b Ls xs) {j : Nat} (hc : cutOK X [(1786, lwK, lwQ j)]) {vs : List Value} {es : List gE} {k n : Nat} (hp : lwP Ls j vs es k n) : G X 188 (lwK.zip vs) [] es k n := by
  obtain ⟨c, wy, f, g, E, th, hj, hLs, hinv, hmw, rfl, rfl, hk, hn⟩ := hp
  obtain ⟨k9, ans, c', hr, hinv', hk9⟩ := e_access (xs (5 * j + 1)) (xs (5 * j + 2)) hinv
  refine wr_ok (kq_0 h) hc 9 188 _ _ _ _ _ ?_
  refine ⟨5 * j + 1, nI_add _ _, by omega, ?_⟩
  refine ⟨5 * j + 2, nI_add _ _, by omega, ?_⟩
  refine ⟨⟨by omega, by omega⟩, c, wy, f, g, _, rfl, ?_⟩
  refine ⟨c, wy, f, g, _, _, k9, ans, c', rfl, hinv, hr, rfl, fun wy' f' hf' => ?_⟩
  refine ⟨c', wy', f', g, rfl, ?_⟩
  refine ⟨5 * j + 1, nI_add _ _, by omega, ?_⟩
  refine ⟨5 * j + 2, nI_add _ _, by omega, ?_⟩
  refine ⟨⟨by omega, by omega⟩, c', wy', f', g, E, rfl, ⟨c, th, hmw⟩, ?_⟩
  refine ⟨c, th, _, _, k9, ans, c', rfl, hinv, hmw, hr, fun E' hE' => ?_⟩
  refine ⟨⟨c', _, hE'⟩, rfl, ?_⟩
  refine ⟨⟨by omega, by omega⟩, c', wy', f', g, E', rfl, ⟨c', _, hE'⟩, ?_⟩
  refine ⟨c', _, rfl, hE', ?_⟩
  refine ⟨⟨c', _, hE'⟩, rfl, ?_⟩
  refine ⟨fun _ => ?_, fun z => absurd rfl z⟩
  refine ⟨fun _ => ⟨c', wy', f', g, E', _, hinv', hE', rfl, rfl, by omega, by omega⟩, fun z0 => ?_⟩
  obtain rfl := nI_z z0 hk9
  refine ⟨rfl, c', wy', f', g, _, rfl, ?_⟩
  refine ⟨fun _ => ⟨c', wy', f', g, E', _, hinv', hE', rfl, rfl, by omega, by omega⟩, fun z1 => absurd ?_ z1⟩
  show lg_cmp (f' 0) ans.toInt64 = 0
  rw [hf' rfl]
  exact lg_self _
def q_1 (Ls : Nat) (xs : Nat → Int32) : List (Nat × gO) := [(256, oFR 0 (oALoad 1)), (257, oALoad 0), (258, oILoad 5), (260, oConst (nI 1)), (261, oAdd), (262, oSld Ls xs 1999), (263, oALoad 0), (264, oILoad 5), (266, oConst (nI 2)), (267, oAdd), (268, oSld Ls xs 1999), (269, oALoad 0), (270, oILoad 5), (272, oConst (nI 3)), (273, oAdd), (274, oSld Ls xs 1999), (275, oALoad 0), (276, oILoad 5), (278, oConst (nI 4)), (279, oAdd), (280, oSld Ls xs 1999), (281, oALoad 3), (282, oLS 601024 7293034 4 24 6 sL_stream), (285, oFR 0 (oIStore 9 6)), (287, oALoad 2), (288, oALoad 0), (289, oILoad 5), (291, oConst (nI 1)), (292, oAdd), (293, oSld Ls xs 1999), (294, oALoad 0), (295, oILoad 5), (297, oConst (nI 2)), (298, oAdd), (299, oSld Ls xs 1999), (300, oALoad 0), (301, oILoad 5), (303, oConst (nI 3)), (304, oAdd), (305, oSld Ls xs 1999), (306, oALoad 0), (307, oILoad 5), (309, oConst (nI 4)), (310, oAdd), (311, oSld Ls xs 1999), (312, oLM 601024 7293034 4 sX7_stream), (315, oFR 0 (oIStore 9 7)), (317, oALoad 2), (318, oLM 601024 7293034 0 s7_thrown), (321, oFR 0 (oILoad 6)), (323, oICmp_eq 328), (326, oConst (nI 0)), (327, oLEnd), (328, oILoad 6), (330, oIf_ne 345), (333, oALoad 3), (334, oConst (nI 0)), (335, oGetL), (336, oILoad 7), (338, oI2L), (339, oLCmp), (340, oIf_eq 345), (343, oConst (nI 0)), (344, oLEnd), (345, oGoto 1786)]
set_option maxRecDepth 100000 in
theorem kq_1 {X : gX} {l : Launch} {b Ls : Nat} {xs : Nat → Int32} (h : lawX X l b Ls xs) : okL X (q_1 Ls xs) := by
  obtain ⟨hM, hSc, hLE, hC9, hl, hnL⟩ := h
  obtain ⟨p, l1, e, R, s, m, args, below, meth, c, D, cA, A, ag, ad0, Q, nL⟩ := X
  cases hnL
  refine ⟨ok_FR (ok_aload_n hM 1 dL_law_256 rfl),
    ok_aload_n hM 0 dL_law_257 rfl,
    ok_iload hM 5 dL_law_258,
    ok_iconst hM dL_law_260 rfl,
    ok_iadd hM dL_law_261,
    ok_sld hM hSc dL_law_262,
    ok_aload_n hM 0 dL_law_263 rfl,
    ok_iload hM 5 dL_law_264,
    ok_iconst hM dL_law_266 rfl,
    ok_iadd hM dL_law_267,
    ok_sld hM hSc dL_law_268,
    ok_aload_n hM 0 dL_law_269 rfl,
    ok_iload hM 5 dL_law_270,
    ok_iconst hM dL_law_272 rfl,
    ok_iadd hM dL_law_273,
    ok_sld hM hSc dL_law_274,
    ok_aload_n hM 0 dL_law_275 rfl,
    ok_iload hM 5 dL_law_276,
    ok_iconst hM dL_law_278 rfl,
    ok_iadd hM dL_law_279,
    ok_sld hM hSc dL_law_280,
    ok_aload_n hM 3 dL_law_281 rfl,
    ok_lS hM hC9 (ctL_stream l hl) gL_law_L_stream rfl rfl rfl (by decide +kernel) (by decide) dL_law_282,
    ok_FR (ok_istore hM 6 dL_law_285),
    ok_aload_n hM 2 dL_law_287 rfl,
    ok_aload_n hM 0 dL_law_288 rfl,
    ok_iload hM 5 dL_law_289,
    ok_iconst hM dL_law_291 rfl,
    ok_iadd hM dL_law_292,
    ok_sld hM hSc dL_law_293,
    ok_aload_n hM 0 dL_law_294 rfl,
    ok_iload hM 5 dL_law_295,
    ok_iconst hM dL_law_297 rfl,
    ok_iadd hM dL_law_298,
    ok_sld hM hSc dL_law_299,
    ok_aload_n hM 0 dL_law_300 rfl,
    ok_iload hM 5 dL_law_301,
    ok_iconst hM dL_law_303 rfl,
    ok_iadd hM dL_law_304,
    ok_sld hM hSc dL_law_305,
    ok_aload_n hM 0 dL_law_306 rfl,
    ok_iload hM 5 dL_law_307,
    ok_iconst hM dL_law_309 rfl,
    ok_iadd hM dL_law_310,
    ok_sld hM hSc dL_law_311,
    ok_lM hM (ctX7_stream l) gL_law_X7_stream rfl rfl rfl (by decide +kernel) (by decide) dL_law_312,
    ok_FR (ok_istore hM 7 dL_law_315),
    ok_aload_n hM 2 dL_law_317 rfl,
    ok_lM hM (c7_thrown l) gL_law_X7_thrown rfl rfl rfl (by decide +kernel) (by decide) dL_law_318,
    ok_FR (ok_iload hM 6 dL_law_321),
    ok_icmp_eq hM 328 dL_law_323 (by decide),
    ok_iconst hM dL_law_326 rfl,
    ok_lend hLE dL_law_327,
    ok_iload hM 6 dL_law_328,
    ok_if_ne hM 345 dL_law_330 (by decide),
    ok_aload_n hM 3 dL_law_333 rfl,
    ok_iconst hM dL_law_334 rfl,
    ok_getL (ok_lald hM dL_law_335),
    ok_iload hM 7 dL_law_336,
    ok_i2l hM dL_law_338,
    ok_lcmp hM dL_law_339,
    ok_if_eq hM 345 dL_law_340 (by decide),
    ok_iconst hM dL_law_343 rfl,
    ok_lend hLE dL_law_344,
    ok_goto hM 1786 dL_law_345 (by decide),
    trivial⟩
theorem case_1 {X : gX} {l : Launch} {b Ls : Nat} {xs : Nat → Int32} (h : lawX X l b Ls xs) {j : Nat} (hc : cutOK X [(1786, lwK, lwQ j)]) {vs : List Value} {es : List gE} {k n : Nat} (hp : lwP Ls j vs es k n) : G X 256 (lwK.zip vs) [] es k n := by
  obtain ⟨c, wy, f, g, E, th, hj, hLs, hinv, hmw, rfl, rfl, hk, hn⟩ := hp
  obtain ⟨k9, ans, c', hr, hinv', hk9⟩ := e_stream (xs (5 * j + 1)) (xs (5 * j + 2)) (xs (5 * j + 3)) (xs (5 * j + 4)) hinv
  refine wr_ok (kq_1 h) hc 9 256 _ _ _ _ _ ?_
  refine ⟨5 * j + 1, nI_add _ _, by omega, ?_⟩
  refine ⟨5 * j + 2, nI_add _ _, by omega, ?_⟩
  refine ⟨5 * j + 3, nI_add _ _, by omega, ?_⟩
  refine ⟨5 * j + 4, nI_add _ _, by omega, ?_⟩
  refine ⟨⟨by omega, by omega⟩, c, wy, f, g, _, rfl, ?_⟩
  refine ⟨c, wy, f, g, _, _, _, _, k9, ans, c', rfl, hinv, hr, rfl, fun wy' f' hf' => ?_⟩
  refine ⟨c', wy', f', g, rfl, ?_⟩
  refine ⟨5 * j + 1, nI_add _ _, by omega, ?_⟩
  refine ⟨5 * j + 2, nI_add _ _, by omega, ?_⟩
  refine ⟨5 * j + 3, nI_add _ _, by omega, ?_⟩
  refine ⟨5 * j + 4, nI_add _ _, by omega, ?_⟩
  refine ⟨⟨by omega, by omega⟩, c', wy', f', g, E, rfl, ⟨c, th, hmw⟩, ?_⟩
  refine ⟨c, th, _, _, _, _, k9, ans, c', rfl, hinv, hmw, hr, fun E' hE' => ?_⟩
  refine ⟨⟨c', _, hE'⟩, rfl, ?_⟩
  refine ⟨⟨by omega, by omega⟩, c', wy', f', g, E', rfl, ⟨c', _, hE'⟩, ?_⟩
  refine ⟨c', _, rfl, hE', ?_⟩
  refine ⟨⟨c', _, hE'⟩, rfl, ?_⟩
  refine ⟨fun _ => ?_, fun z => absurd rfl z⟩
  refine ⟨fun _ => ⟨c', wy', f', g, E', _, hinv', hE', rfl, rfl, by omega, by omega⟩, fun z0 => ?_⟩
  obtain rfl := nI_z z0 hk9
  refine ⟨rfl, c', wy', f', g, _, rfl, ?_⟩
  refine ⟨fun _ => ⟨c', wy', f', g, E', _, hinv', hE', rfl, rfl, by omega, by omega⟩, fun z1 => absurd ?_ z1⟩
  show lg_cmp (f' 0) ans.toInt64 = 0
  rw [hf' rfl]
  exact lg_self _
def q_2 (Ls : Nat) (xs : Nat → Int32) : List (Nat × gO) := [(348, oFR 0 (oALoad 1)), (349, oALoad 0), (350, oILoad 5), (352, oConst (nI 1)), (353, oAdd), (354, oSld Ls xs 1999), (355, oALoad 3), (356, oLS 601024 7293034 1 6 3 sL_flush), (359, oFR 0 (oIStore 9 6)), (361, oALoad 2), (362, oALoad 0), (363, oILoad 5), (365, oConst (nI 1)), (366, oAdd), (367, oSld Ls xs 1999), (368, oLM 601024 7293034 1 sX7_flush), (371, oFR 0 (oIStore 9 7)), (373, oALoad 2), (374, oLM 601024 7293034 0 s7_thrown), (377, oFR 0 (oILoad 6)), (379, oICmp_eq 384), (382, oConst (nI 0)), (383, oLEnd), (384, oILoad 6), (386, oIf_ne 401), (389, oALoad 3), (390, oConst (nI 0)), (391, oGetL), (392, oILoad 7), (394, oI2L), (395, oLCmp), (396, oIf_eq 401), (399, oConst (nI 0)), (400, oLEnd), (401, oGoto 1786)]
set_option maxRecDepth 100000 in
theorem kq_2 {X : gX} {l : Launch} {b Ls : Nat} {xs : Nat → Int32} (h : lawX X l b Ls xs) : okL X (q_2 Ls xs) := by
  obtain ⟨hM, hSc, hLE, hC9, hl, hnL⟩ := h
  obtain ⟨p, l1, e, R, s, m, args, below, meth, c, D, cA, A, ag, ad0, Q, nL⟩ := X
  cases hnL
  refine ⟨ok_FR (ok_aload_n hM 1 dL_law_348 rfl),
    ok_aload_n hM 0 dL_law_349 rfl,
    ok_iload hM 5 dL_law_350,
    ok_iconst hM dL_law_352 rfl,
    ok_iadd hM dL_law_353,
    ok_sld hM hSc dL_law_354,
    ok_aload_n hM 3 dL_law_355 rfl,
    ok_lS hM hC9 (ctL_flush l hl) gL_law_L_flush rfl rfl rfl (by decide +kernel) (by decide) dL_law_356,
    ok_FR (ok_istore hM 6 dL_law_359),
    ok_aload_n hM 2 dL_law_361 rfl,
    ok_aload_n hM 0 dL_law_362 rfl,
    ok_iload hM 5 dL_law_363,
    ok_iconst hM dL_law_365 rfl,
    ok_iadd hM dL_law_366,
    ok_sld hM hSc dL_law_367,
    ok_lM hM (ctX7_flush l) gL_law_X7_flush rfl rfl rfl (by decide +kernel) (by decide) dL_law_368,
    ok_FR (ok_istore hM 7 dL_law_371),
    ok_aload_n hM 2 dL_law_373 rfl,
    ok_lM hM (c7_thrown l) gL_law_X7_thrown rfl rfl rfl (by decide +kernel) (by decide) dL_law_374,
    ok_FR (ok_iload hM 6 dL_law_377),
    ok_icmp_eq hM 384 dL_law_379 (by decide),
    ok_iconst hM dL_law_382 rfl,
    ok_lend hLE dL_law_383,
    ok_iload hM 6 dL_law_384,
    ok_if_ne hM 401 dL_law_386 (by decide),
    ok_aload_n hM 3 dL_law_389 rfl,
    ok_iconst hM dL_law_390 rfl,
    ok_getL (ok_lald hM dL_law_391),
    ok_iload hM 7 dL_law_392,
    ok_i2l hM dL_law_394,
    ok_lcmp hM dL_law_395,
    ok_if_eq hM 401 dL_law_396 (by decide),
    ok_iconst hM dL_law_399 rfl,
    ok_lend hLE dL_law_400,
    ok_goto hM 1786 dL_law_401 (by decide),
    trivial⟩
theorem case_2 {X : gX} {l : Launch} {b Ls : Nat} {xs : Nat → Int32} (h : lawX X l b Ls xs) {j : Nat} (hc : cutOK X [(1786, lwK, lwQ j)]) {vs : List Value} {es : List gE} {k n : Nat} (hp : lwP Ls j vs es k n) : G X 348 (lwK.zip vs) [] es k n := by
  obtain ⟨c, wy, f, g, E, th, hj, hLs, hinv, hmw, rfl, rfl, hk, hn⟩ := hp
  obtain ⟨k9, ans, c', hr, hinv', hk9⟩ := e_flush (xs (5 * j + 1)) hinv
  refine wr_ok (kq_2 h) hc 9 348 _ _ _ _ _ ?_
  refine ⟨5 * j + 1, nI_add _ _, by omega, ?_⟩
  refine ⟨⟨by omega, by omega⟩, c, wy, f, g, _, rfl, ?_⟩
  refine ⟨c, wy, f, g, _, k9, ans, c', rfl, hinv, hr, rfl, fun wy' f' hf' => ?_⟩
  refine ⟨c', wy', f', g, rfl, ?_⟩
  refine ⟨5 * j + 1, nI_add _ _, by omega, ?_⟩
  refine ⟨⟨by omega, by omega⟩, c', wy', f', g, E, rfl, ⟨c, th, hmw⟩, ?_⟩
  refine ⟨c, th, _, k9, ans, c', rfl, hinv, hmw, hr, fun E' hE' => ?_⟩
  refine ⟨⟨c', _, hE'⟩, rfl, ?_⟩
  refine ⟨⟨by omega, by omega⟩, c', wy', f', g, E', rfl, ⟨c', _, hE'⟩, ?_⟩
  refine ⟨c', _, rfl, hE', ?_⟩
  refine ⟨⟨c', _, hE'⟩, rfl, ?_⟩
  refine ⟨fun _ => ?_, fun z => absurd rfl z⟩
  refine ⟨fun _ => ⟨c', wy', f', g, E', _, hinv', hE', rfl, rfl, by omega, by omega⟩, fun z0 => ?_⟩
  obtain rfl := nI_z z0 hk9
  refine ⟨rfl, c', wy', f', g, _, rfl, ?_⟩
  refine ⟨fun _ => ⟨c', wy', f', g, E', _, hinv', hE', rfl, rfl, by omega, by omega⟩, fun z1 => absurd ?_ z1⟩
  show lg_cmp (f' 0) ans.toInt64 = 0
  rw [hf' rfl]
  exact lg_self _
def q_3 (Ls : Nat) (xs : Nat → Int32) : List (Nat × gO) := [(404, oFR 0 (oALoad 1)), (405, oLV 601024 7293034 0 s6_moveWay), (408, oFR 0 (oALoad 2)), (409, oLM 601024 7293034 0 sX7_moveWay), (412, oFR 0 (oICmp_eq 1786)), (415, oConst (nI 0)), (416, oLEnd)]
set_option maxRecDepth 100000 in
theorem kq_3 {X : gX} {l : Launch} {b Ls : Nat} {xs : Nat → Int32} (h : lawX X l b Ls xs) : okL X (q_3 Ls xs) := by
  obtain ⟨hM, hSc, hLE, hC9, hl, hnL⟩ := h
  obtain ⟨p, l1, e, R, s, m, args, below, meth, c, D, cA, A, ag, ad0, Q, nL⟩ := X
  cases hnL
  refine ⟨ok_FR (ok_aload_n hM 1 dL_law_404 rfl),
    ok_lV hM (c6_moveWay l) gL_law_X6_moveWay rfl rfl rfl (by decide +kernel) (by decide) dL_law_405,
    ok_FR (ok_aload_n hM 2 dL_law_408 rfl),
    ok_lM hM (ctX7_moveWay l) gL_law_X7_moveWay rfl rfl rfl (by decide +kernel) (by decide) dL_law_409,
    ok_FR (ok_icmp_eq hM 1786 dL_law_412 (by decide)),
    ok_iconst hM dL_law_415 rfl,
    ok_lend hLE dL_law_416,
    trivial⟩
theorem case_3 {X : gX} {l : Launch} {b Ls : Nat} {xs : Nat → Int32} (h : lawX X l b Ls xs) {j : Nat} (hc : cutOK X [(1786, lwK, lwQ j)]) {vs : List Value} {es : List gE} {k n : Nat} (hp : lwP Ls j vs es k n) : G X 404 (lwK.zip vs) [] es k n := by
  obtain ⟨c, wy, f, g, E, th, hj, hLs, hinv, hmw, rfl, rfl, hk, hn⟩ := hp
  refine wr_ok (kq_3 h) hc 9 404 _ _ _ _ _ ?_
  refine ⟨⟨by omega, by omega⟩, c, wy, f, g, _, rfl, ?_⟩
  refine ⟨c, wy, rfl, hinv, rfl, fun wy' => ?_⟩
  refine ⟨(m_moveWay c), wy', rfl, ?_⟩
  refine ⟨⟨by omega, by omega⟩, (m_moveWay c), wy', f, g, E, rfl, ⟨c, th, hmw⟩, ?_⟩
  refine ⟨c, th, rfl, hinv, hmw, fun E' hE' => ?_⟩
  refine ⟨⟨(m_moveWay c), _, hE'⟩, rfl, ?_⟩
  exact ⟨fun _ => ⟨(m_moveWay c), wy', f, g, E', _, (i_moveWay hinv), hE', rfl, rfl, by omega, by omega⟩, fun z => absurd rfl z⟩
def q_4 (Ls : Nat) (xs : Nat → Int32) : List (Nat × gO) := [(417, oFR 0 (oALoad 1)), (418, oALoad 0), (419, oILoad 5), (421, oConst (nI 1)), (422, oAdd), (423, oSld Ls xs 1999), (424, oALoad 0), (425, oILoad 5), (427, oConst (nI 2)), (428, oAdd), (429, oSld Ls xs 1999), (430, oALoad 3), (431, oLS 601024 7293034 2 12 4 sL_giveWay), (434, oFR 0 (oIStore 9 6)), (436, oALoad 2), (437, oALoad 0), (438, oILoad 5), (440, oConst (nI 1)), (441, oAdd), (442, oSld Ls xs 1999), (443, oALoad 0), (444, oILoad 5), (446, oConst (nI 2)), (447, oAdd), (448, oSld Ls xs 1999), (449, oLM 601024 7293034 2 sX7_giveWay), (452, oFR 0 (oIStore 9 7)), (454, oALoad 2), (455, oLM 601024 7293034 0 s7_thrown), (458, oFR 0 (oILoad 6)), (460, oICmp_eq 465), (463, oConst (nI 0)), (464, oLEnd), (465, oILoad 6), (467, oIf_ne 482), (470, oALoad 3), (471, oConst (nI 0)), (472, oGetL), (473, oILoad 7), (475, oI2L), (476, oLCmp), (477, oIf_eq 482), (480, oConst (nI 0)), (481, oLEnd), (482, oGoto 1786)]
set_option maxRecDepth 100000 in
theorem kq_4 {X : gX} {l : Launch} {b Ls : Nat} {xs : Nat → Int32} (h : lawX X l b Ls xs) : okL X (q_4 Ls xs) := by
  obtain ⟨hM, hSc, hLE, hC9, hl, hnL⟩ := h
  obtain ⟨p, l1, e, R, s, m, args, below, meth, c, D, cA, A, ag, ad0, Q, nL⟩ := X
  cases hnL
  refine ⟨ok_FR (ok_aload_n hM 1 dL_law_417 rfl),
    ok_aload_n hM 0 dL_law_418 rfl,
    ok_iload hM 5 dL_law_419,
    ok_iconst hM dL_law_421 rfl,
    ok_iadd hM dL_law_422,
    ok_sld hM hSc dL_law_423,
    ok_aload_n hM 0 dL_law_424 rfl,
    ok_iload hM 5 dL_law_425,
    ok_iconst hM dL_law_427 rfl,
    ok_iadd hM dL_law_428,
    ok_sld hM hSc dL_law_429,
    ok_aload_n hM 3 dL_law_430 rfl,
    ok_lS hM hC9 (ctL_giveWay l hl) gL_law_L_giveWay rfl rfl rfl (by decide +kernel) (by decide) dL_law_431,
    ok_FR (ok_istore hM 6 dL_law_434),
    ok_aload_n hM 2 dL_law_436 rfl,
    ok_aload_n hM 0 dL_law_437 rfl,
    ok_iload hM 5 dL_law_438,
    ok_iconst hM dL_law_440 rfl,
    ok_iadd hM dL_law_441,
    ok_sld hM hSc dL_law_442,
    ok_aload_n hM 0 dL_law_443 rfl,
    ok_iload hM 5 dL_law_444,
    ok_iconst hM dL_law_446 rfl,
    ok_iadd hM dL_law_447,
    ok_sld hM hSc dL_law_448,
    ok_lM hM (ctX7_giveWay l) gL_law_X7_giveWay rfl rfl rfl (by decide +kernel) (by decide) dL_law_449,
    ok_FR (ok_istore hM 7 dL_law_452),
    ok_aload_n hM 2 dL_law_454 rfl,
    ok_lM hM (c7_thrown l) gL_law_X7_thrown rfl rfl rfl (by decide +kernel) (by decide) dL_law_455,
    ok_FR (ok_iload hM 6 dL_law_458),
    ok_icmp_eq hM 465 dL_law_460 (by decide),
    ok_iconst hM dL_law_463 rfl,
    ok_lend hLE dL_law_464,
    ok_iload hM 6 dL_law_465,
    ok_if_ne hM 482 dL_law_467 (by decide),
    ok_aload_n hM 3 dL_law_470 rfl,
    ok_iconst hM dL_law_471 rfl,
    ok_getL (ok_lald hM dL_law_472),
    ok_iload hM 7 dL_law_473,
    ok_i2l hM dL_law_475,
    ok_lcmp hM dL_law_476,
    ok_if_eq hM 482 dL_law_477 (by decide),
    ok_iconst hM dL_law_480 rfl,
    ok_lend hLE dL_law_481,
    ok_goto hM 1786 dL_law_482 (by decide),
    trivial⟩
theorem case_4 {X : gX} {l : Launch} {b Ls : Nat} {xs : Nat → Int32} (h : lawX X l b Ls xs) {j : Nat} (hc : cutOK X [(1786, lwK, lwQ j)]) {vs : List Value} {es : List gE} {k n : Nat} (hp : lwP Ls j vs es k n) : G X 417 (lwK.zip vs) [] es k n := by
  obtain ⟨c, wy, f, g, E, th, hj, hLs, hinv, hmw, rfl, rfl, hk, hn⟩ := hp
  obtain ⟨k9, ans, c', hr, hinv', hk9⟩ := e_giveWay (xs (5 * j + 1)) (xs (5 * j + 2)) hinv
  refine wr_ok (kq_4 h) hc 9 417 _ _ _ _ _ ?_
  refine ⟨5 * j + 1, nI_add _ _, by omega, ?_⟩
  refine ⟨5 * j + 2, nI_add _ _, by omega, ?_⟩
  refine ⟨⟨by omega, by omega⟩, c, wy, f, g, _, rfl, ?_⟩
  refine ⟨c, wy, f, g, _, _, k9, ans, c', rfl, hinv, hr, rfl, fun wy' f' hf' => ?_⟩
  refine ⟨c', wy', f', g, rfl, ?_⟩
  refine ⟨5 * j + 1, nI_add _ _, by omega, ?_⟩
  refine ⟨5 * j + 2, nI_add _ _, by omega, ?_⟩
  refine ⟨⟨by omega, by omega⟩, c', wy', f', g, E, rfl, ⟨c, th, hmw⟩, ?_⟩
  refine ⟨c, th, _, _, k9, ans, c', rfl, hinv, hmw, hr, fun E' hE' => ?_⟩
  refine ⟨⟨c', _, hE'⟩, rfl, ?_⟩
  refine ⟨⟨by omega, by omega⟩, c', wy', f', g, E', rfl, ⟨c', _, hE'⟩, ?_⟩
  refine ⟨c', _, rfl, hE', ?_⟩
  refine ⟨⟨c', _, hE'⟩, rfl, ?_⟩
  refine ⟨fun _ => ?_, fun z => absurd rfl z⟩
  refine ⟨fun _ => ⟨c', wy', f', g, E', _, hinv', hE', rfl, rfl, by omega, by omega⟩, fun z0 => ?_⟩
  obtain rfl := nI_z z0 hk9
  refine ⟨rfl, c', wy', f', g, _, rfl, ?_⟩
  refine ⟨fun _ => ⟨c', wy', f', g, E', _, hinv', hE', rfl, rfl, by omega, by omega⟩, fun z1 => absurd ?_ z1⟩
  show lg_cmp (f' 0) ans.toInt64 = 0
  rw [hf' rfl]
  exact lg_self _
def q_5 (Ls : Nat) (xs : Nat → Int32) : List (Nat × gO) := [(485, oFR 0 (oALoad 1)), (486, oALoad 0), (487, oILoad 5), (489, oConst (nI 1)), (490, oAdd), (491, oSld Ls xs 1999), (492, oALoad 0), (493, oILoad 5), (495, oConst (nI 2)), (496, oAdd), (497, oSld Ls xs 1999), (498, oALoad 3), (499, oLS 601024 7293034 2 12 4 sL_setLeast), (502, oFR 0 (oIStore 9 6)), (504, oALoad 2), (505, oALoad 0), (506, oILoad 5), (508, oConst (nI 1)), (509, oAdd), (510, oSld Ls xs 1999), (511, oALoad 0), (512, oILoad 5), (514, oConst (nI 2)), (515, oAdd), (516, oSld Ls xs 1999), (517, oLM 601024 7293034 2 sX7_setLeast), (520, oFR 0 (oIStore 9 7)), (522, oALoad 2), (523, oLM 601024 7293034 0 s7_thrown), (526, oFR 0 (oILoad 6)), (528, oICmp_eq 533), (531, oConst (nI 0)), (532, oLEnd), (533, oILoad 6), (535, oIf_ne 550), (538, oALoad 3), (539, oConst (nI 0)), (540, oGetL), (541, oILoad 7), (543, oI2L), (544, oLCmp), (545, oIf_eq 550), (548, oConst (nI 0)), (549, oLEnd), (550, oGoto 1786)]
set_option maxRecDepth 100000 in
theorem kq_5 {X : gX} {l : Launch} {b Ls : Nat} {xs : Nat → Int32} (h : lawX X l b Ls xs) : okL X (q_5 Ls xs) := by
  obtain ⟨hM, hSc, hLE, hC9, hl, hnL⟩ := h
  obtain ⟨p, l1, e, R, s, m, args, below, meth, c, D, cA, A, ag, ad0, Q, nL⟩ := X
  cases hnL
  refine ⟨ok_FR (ok_aload_n hM 1 dL_law_485 rfl),
    ok_aload_n hM 0 dL_law_486 rfl,
    ok_iload hM 5 dL_law_487,
    ok_iconst hM dL_law_489 rfl,
    ok_iadd hM dL_law_490,
    ok_sld hM hSc dL_law_491,
    ok_aload_n hM 0 dL_law_492 rfl,
    ok_iload hM 5 dL_law_493,
    ok_iconst hM dL_law_495 rfl,
    ok_iadd hM dL_law_496,
    ok_sld hM hSc dL_law_497,
    ok_aload_n hM 3 dL_law_498 rfl,
    ok_lS hM hC9 (ctL_setLeast l hl) gL_law_L_setLeast rfl rfl rfl (by decide +kernel) (by decide) dL_law_499,
    ok_FR (ok_istore hM 6 dL_law_502),
    ok_aload_n hM 2 dL_law_504 rfl,
    ok_aload_n hM 0 dL_law_505 rfl,
    ok_iload hM 5 dL_law_506,
    ok_iconst hM dL_law_508 rfl,
    ok_iadd hM dL_law_509,
    ok_sld hM hSc dL_law_510,
    ok_aload_n hM 0 dL_law_511 rfl,
    ok_iload hM 5 dL_law_512,
    ok_iconst hM dL_law_514 rfl,
    ok_iadd hM dL_law_515,
    ok_sld hM hSc dL_law_516,
    ok_lM hM (ctX7_setLeast l) gL_law_X7_setLeast rfl rfl rfl (by decide +kernel) (by decide) dL_law_517,
    ok_FR (ok_istore hM 7 dL_law_520),
    ok_aload_n hM 2 dL_law_522 rfl,
    ok_lM hM (c7_thrown l) gL_law_X7_thrown rfl rfl rfl (by decide +kernel) (by decide) dL_law_523,
    ok_FR (ok_iload hM 6 dL_law_526),
    ok_icmp_eq hM 533 dL_law_528 (by decide),
    ok_iconst hM dL_law_531 rfl,
    ok_lend hLE dL_law_532,
    ok_iload hM 6 dL_law_533,
    ok_if_ne hM 550 dL_law_535 (by decide),
    ok_aload_n hM 3 dL_law_538 rfl,
    ok_iconst hM dL_law_539 rfl,
    ok_getL (ok_lald hM dL_law_540),
    ok_iload hM 7 dL_law_541,
    ok_i2l hM dL_law_543,
    ok_lcmp hM dL_law_544,
    ok_if_eq hM 550 dL_law_545 (by decide),
    ok_iconst hM dL_law_548 rfl,
    ok_lend hLE dL_law_549,
    ok_goto hM 1786 dL_law_550 (by decide),
    trivial⟩
theorem case_5 {X : gX} {l : Launch} {b Ls : Nat} {xs : Nat → Int32} (h : lawX X l b Ls xs) {j : Nat} (hc : cutOK X [(1786, lwK, lwQ j)]) {vs : List Value} {es : List gE} {k n : Nat} (hp : lwP Ls j vs es k n) : G X 485 (lwK.zip vs) [] es k n := by
  obtain ⟨c, wy, f, g, E, th, hj, hLs, hinv, hmw, rfl, rfl, hk, hn⟩ := hp
  obtain ⟨k9, ans, c', hr, hinv', hk9⟩ := e_setLeast (xs (5 * j + 1)) (xs (5 * j + 2)) hinv
  refine wr_ok (kq_5 h) hc 9 485 _ _ _ _ _ ?_
  refine ⟨5 * j + 1, nI_add _ _, by omega, ?_⟩
  refine ⟨5 * j + 2, nI_add _ _, by omega, ?_⟩
  refine ⟨⟨by omega, by omega⟩, c, wy, f, g, _, rfl, ?_⟩
  refine ⟨c, wy, f, g, _, _, k9, ans, c', rfl, hinv, hr, rfl, fun wy' f' hf' => ?_⟩
  refine ⟨c', wy', f', g, rfl, ?_⟩
  refine ⟨5 * j + 1, nI_add _ _, by omega, ?_⟩
  refine ⟨5 * j + 2, nI_add _ _, by omega, ?_⟩
  refine ⟨⟨by omega, by omega⟩, c', wy', f', g, E, rfl, ⟨c, th, hmw⟩, ?_⟩
  refine ⟨c, th, _, _, k9, ans, c', rfl, hinv, hmw, hr, fun E' hE' => ?_⟩
  refine ⟨⟨c', _, hE'⟩, rfl, ?_⟩
  refine ⟨⟨by omega, by omega⟩, c', wy', f', g, E', rfl, ⟨c', _, hE'⟩, ?_⟩
  refine ⟨c', _, rfl, hE', ?_⟩
  refine ⟨⟨c', _, hE'⟩, rfl, ?_⟩
  refine ⟨fun _ => ?_, fun z => absurd rfl z⟩
  refine ⟨fun _ => ⟨c', wy', f', g, E', _, hinv', hE', rfl, rfl, by omega, by omega⟩, fun z0 => ?_⟩
  obtain rfl := nI_z z0 hk9
  refine ⟨rfl, c', wy', f', g, _, rfl, ?_⟩
  refine ⟨fun _ => ⟨c', wy', f', g, E', _, hinv', hE', rfl, rfl, by omega, by omega⟩, fun z1 => absurd ?_ z1⟩
  show lg_cmp (f' 0) ans.toInt64 = 0
  rw [hf' rfl]
  exact lg_self _
def q_6 (Ls : Nat) (xs : Nat → Int32) : List (Nat × gO) := [(553, oFR 0 (oALoad 1)), (554, oALoad 0), (555, oILoad 5), (557, oConst (nI 1)), (558, oAdd), (559, oSld Ls xs 1999), (560, oALoad 3), (561, oLS 601024 7293034 1 6 3 sL_setEpoch), (564, oFR 0 (oIStore 9 6)), (566, oALoad 2), (567, oALoad 0), (568, oILoad 5), (570, oConst (nI 1)), (571, oAdd), (572, oSld Ls xs 1999), (573, oLM 601024 7293034 1 sX7_setEpoch), (576, oFR 0 (oIStore 9 7)), (578, oALoad 2), (579, oLM 601024 7293034 0 s7_thrown), (582, oFR 0 (oILoad 6)), (584, oICmp_eq 589), (587, oConst (nI 0)), (588, oLEnd), (589, oILoad 6), (591, oIf_ne 606), (594, oALoad 3), (595, oConst (nI 0)), (596, oGetL), (597, oILoad 7), (599, oI2L), (600, oLCmp), (601, oIf_eq 606), (604, oConst (nI 0)), (605, oLEnd), (606, oGoto 1786)]
set_option maxRecDepth 100000 in
theorem kq_6 {X : gX} {l : Launch} {b Ls : Nat} {xs : Nat → Int32} (h : lawX X l b Ls xs) : okL X (q_6 Ls xs) := by
  obtain ⟨hM, hSc, hLE, hC9, hl, hnL⟩ := h
  obtain ⟨p, l1, e, R, s, m, args, below, meth, c, D, cA, A, ag, ad0, Q, nL⟩ := X
  cases hnL
  refine ⟨ok_FR (ok_aload_n hM 1 dL_law_553 rfl),
    ok_aload_n hM 0 dL_law_554 rfl,
    ok_iload hM 5 dL_law_555,
    ok_iconst hM dL_law_557 rfl,
    ok_iadd hM dL_law_558,
    ok_sld hM hSc dL_law_559,
    ok_aload_n hM 3 dL_law_560 rfl,
    ok_lS hM hC9 (ctL_setEpoch l hl) gL_law_L_setEpoch rfl rfl rfl (by decide +kernel) (by decide) dL_law_561,
    ok_FR (ok_istore hM 6 dL_law_564),
    ok_aload_n hM 2 dL_law_566 rfl,
    ok_aload_n hM 0 dL_law_567 rfl,
    ok_iload hM 5 dL_law_568,
    ok_iconst hM dL_law_570 rfl,
    ok_iadd hM dL_law_571,
    ok_sld hM hSc dL_law_572,
    ok_lM hM (ctX7_setEpoch l) gL_law_X7_setEpoch rfl rfl rfl (by decide +kernel) (by decide) dL_law_573,
    ok_FR (ok_istore hM 7 dL_law_576),
    ok_aload_n hM 2 dL_law_578 rfl,
    ok_lM hM (c7_thrown l) gL_law_X7_thrown rfl rfl rfl (by decide +kernel) (by decide) dL_law_579,
    ok_FR (ok_iload hM 6 dL_law_582),
    ok_icmp_eq hM 589 dL_law_584 (by decide),
    ok_iconst hM dL_law_587 rfl,
    ok_lend hLE dL_law_588,
    ok_iload hM 6 dL_law_589,
    ok_if_ne hM 606 dL_law_591 (by decide),
    ok_aload_n hM 3 dL_law_594 rfl,
    ok_iconst hM dL_law_595 rfl,
    ok_getL (ok_lald hM dL_law_596),
    ok_iload hM 7 dL_law_597,
    ok_i2l hM dL_law_599,
    ok_lcmp hM dL_law_600,
    ok_if_eq hM 606 dL_law_601 (by decide),
    ok_iconst hM dL_law_604 rfl,
    ok_lend hLE dL_law_605,
    ok_goto hM 1786 dL_law_606 (by decide),
    trivial⟩
theorem case_6 {X : gX} {l : Launch} {b Ls : Nat} {xs : Nat → Int32} (h : lawX X l b Ls xs) {j : Nat} (hc : cutOK X [(1786, lwK, lwQ j)]) {vs : List Value} {es : List gE} {k n : Nat} (hp : lwP Ls j vs es k n) : G X 553 (lwK.zip vs) [] es k n := by
  obtain ⟨c, wy, f, g, E, th, hj, hLs, hinv, hmw, rfl, rfl, hk, hn⟩ := hp
  obtain ⟨k9, ans, c', hr, hinv', hk9⟩ := e_setEpoch (xs (5 * j + 1)) hinv
  refine wr_ok (kq_6 h) hc 9 553 _ _ _ _ _ ?_
  refine ⟨5 * j + 1, nI_add _ _, by omega, ?_⟩
  refine ⟨⟨by omega, by omega⟩, c, wy, f, g, _, rfl, ?_⟩
  refine ⟨c, wy, f, g, _, k9, ans, c', rfl, hinv, hr, rfl, fun wy' f' hf' => ?_⟩
  refine ⟨c', wy', f', g, rfl, ?_⟩
  refine ⟨5 * j + 1, nI_add _ _, by omega, ?_⟩
  refine ⟨⟨by omega, by omega⟩, c', wy', f', g, E, rfl, ⟨c, th, hmw⟩, ?_⟩
  refine ⟨c, th, _, k9, ans, c', rfl, hinv, hmw, hr, fun E' hE' => ?_⟩
  refine ⟨⟨c', _, hE'⟩, rfl, ?_⟩
  refine ⟨⟨by omega, by omega⟩, c', wy', f', g, E', rfl, ⟨c', _, hE'⟩, ?_⟩
  refine ⟨c', _, rfl, hE', ?_⟩
  refine ⟨⟨c', _, hE'⟩, rfl, ?_⟩
  refine ⟨fun _ => ?_, fun z => absurd rfl z⟩
  refine ⟨fun _ => ⟨c', wy', f', g, E', _, hinv', hE', rfl, rfl, by omega, by omega⟩, fun z0 => ?_⟩
  obtain rfl := nI_z z0 hk9
  refine ⟨rfl, c', wy', f', g, _, rfl, ?_⟩
  refine ⟨fun _ => ⟨c', wy', f', g, E', _, hinv', hE', rfl, rfl, by omega, by omega⟩, fun z1 => absurd ?_ z1⟩
  show lg_cmp (f' 0) ans.toInt64 = 0
  rw [hf' rfl]
  exact lg_self _
def q_7 (Ls : Nat) (xs : Nat → Int32) : List (Nat × gO) := [(609, oFR 0 (oALoad 1)), (610, oLV 601024 7293034 0 s6_halveGains), (613, oFR 0 (oALoad 2)), (614, oLM 601024 7293034 0 sX7_halveGains), (617, oFR 0 (oICmp_eq 1786)), (620, oConst (nI 0)), (621, oLEnd)]
set_option maxRecDepth 100000 in
theorem kq_7 {X : gX} {l : Launch} {b Ls : Nat} {xs : Nat → Int32} (h : lawX X l b Ls xs) : okL X (q_7 Ls xs) := by
  obtain ⟨hM, hSc, hLE, hC9, hl, hnL⟩ := h
  obtain ⟨p, l1, e, R, s, m, args, below, meth, c, D, cA, A, ag, ad0, Q, nL⟩ := X
  cases hnL
  refine ⟨ok_FR (ok_aload_n hM 1 dL_law_609 rfl),
    ok_lV hM (c6_halveGains l) gL_law_X6_halveGains rfl rfl rfl (by decide +kernel) (by decide) dL_law_610,
    ok_FR (ok_aload_n hM 2 dL_law_613 rfl),
    ok_lM hM (ctX7_halveGains l) gL_law_X7_halveGains rfl rfl rfl (by decide +kernel) (by decide) dL_law_614,
    ok_FR (ok_icmp_eq hM 1786 dL_law_617 (by decide)),
    ok_iconst hM dL_law_620 rfl,
    ok_lend hLE dL_law_621,
    trivial⟩
theorem case_7 {X : gX} {l : Launch} {b Ls : Nat} {xs : Nat → Int32} (h : lawX X l b Ls xs) {j : Nat} (hc : cutOK X [(1786, lwK, lwQ j)]) {vs : List Value} {es : List gE} {k n : Nat} (hp : lwP Ls j vs es k n) : G X 609 (lwK.zip vs) [] es k n := by
  obtain ⟨c, wy, f, g, E, th, hj, hLs, hinv, hmw, rfl, rfl, hk, hn⟩ := hp
  refine wr_ok (kq_7 h) hc 9 609 _ _ _ _ _ ?_
  refine ⟨⟨by omega, by omega⟩, c, wy, f, g, _, rfl, ?_⟩
  refine ⟨c, wy, rfl, hinv, rfl, fun wy' => ?_⟩
  refine ⟨(m_halveGains c), wy', rfl, ?_⟩
  refine ⟨⟨by omega, by omega⟩, (m_halveGains c), wy', f, g, E, rfl, ⟨c, th, hmw⟩, ?_⟩
  refine ⟨c, th, rfl, hinv, hmw, fun E' hE' => ?_⟩
  refine ⟨⟨(m_halveGains c), _, hE'⟩, rfl, ?_⟩
  exact ⟨fun _ => ⟨(m_halveGains c), wy', f, g, E', _, (i_halveGains hinv), hE', rfl, rfl, by omega, by omega⟩, fun z => absurd rfl z⟩
def q_8 (Ls : Nat) (xs : Nat → Int32) : List (Nat × gO) := [(622, oFR 0 (oALoad 1)), (623, oALoad 0), (624, oILoad 5), (626, oConst (nI 1)), (627, oAdd), (628, oSld Ls xs 1999), (629, oALoad 3), (630, oLS 601024 7293034 2 12 3 sL_appendText), (633, oFR 0 (oIStore 9 6)), (635, oALoad 2), (636, oALoad 0), (637, oILoad 5), (639, oConst (nI 1)), (640, oAdd), (641, oSld Ls xs 1999), (642, oLM 601024 7293034 1 sX7_appendText), (645, oFR 0 (oIStore 9 7)), (647, oALoad 2), (648, oLM 601024 7293034 0 s7_thrown), (651, oFR 0 (oILoad 6)), (653, oICmp_eq 658), (656, oConst (nI 0)), (657, oLEnd), (658, oILoad 6), (660, oIf_ne 675), (663, oALoad 3), (664, oConst (nI 0)), (665, oGetL), (666, oILoad 7), (668, oI2L), (669, oLCmp), (670, oIf_eq 675), (673, oConst (nI 0)), (674, oLEnd), (675, oGoto 1786)]
set_option maxRecDepth 100000 in
theorem kq_8 {X : gX} {l : Launch} {b Ls : Nat} {xs : Nat → Int32} (h : lawX X l b Ls xs) : okL X (q_8 Ls xs) := by
  obtain ⟨hM, hSc, hLE, hC9, hl, hnL⟩ := h
  obtain ⟨p, l1, e, R, s, m, args, below, meth, c, D, cA, A, ag, ad0, Q, nL⟩ := X
  cases hnL
  refine ⟨ok_FR (ok_aload_n hM 1 dL_law_622 rfl),
    ok_aload_n hM 0 dL_law_623 rfl,
    ok_iload hM 5 dL_law_624,
    ok_iconst hM dL_law_626 rfl,
    ok_iadd hM dL_law_627,
    ok_sld hM hSc dL_law_628,
    ok_aload_n hM 3 dL_law_629 rfl,
    ok_lS hM hC9 (ctL_appendText l hl) gL_law_L_appendText rfl rfl rfl (by decide +kernel) (by decide) dL_law_630,
    ok_FR (ok_istore hM 6 dL_law_633),
    ok_aload_n hM 2 dL_law_635 rfl,
    ok_aload_n hM 0 dL_law_636 rfl,
    ok_iload hM 5 dL_law_637,
    ok_iconst hM dL_law_639 rfl,
    ok_iadd hM dL_law_640,
    ok_sld hM hSc dL_law_641,
    ok_lM hM (ctX7_appendText l) gL_law_X7_appendText rfl rfl rfl (by decide +kernel) (by decide) dL_law_642,
    ok_FR (ok_istore hM 7 dL_law_645),
    ok_aload_n hM 2 dL_law_647 rfl,
    ok_lM hM (c7_thrown l) gL_law_X7_thrown rfl rfl rfl (by decide +kernel) (by decide) dL_law_648,
    ok_FR (ok_iload hM 6 dL_law_651),
    ok_icmp_eq hM 658 dL_law_653 (by decide),
    ok_iconst hM dL_law_656 rfl,
    ok_lend hLE dL_law_657,
    ok_iload hM 6 dL_law_658,
    ok_if_ne hM 675 dL_law_660 (by decide),
    ok_aload_n hM 3 dL_law_663 rfl,
    ok_iconst hM dL_law_664 rfl,
    ok_getL (ok_lald hM dL_law_665),
    ok_iload hM 7 dL_law_666,
    ok_i2l hM dL_law_668,
    ok_lcmp hM dL_law_669,
    ok_if_eq hM 675 dL_law_670 (by decide),
    ok_iconst hM dL_law_673 rfl,
    ok_lend hLE dL_law_674,
    ok_goto hM 1786 dL_law_675 (by decide),
    trivial⟩
theorem case_8 {X : gX} {l : Launch} {b Ls : Nat} {xs : Nat → Int32} (h : lawX X l b Ls xs) {j : Nat} (hc : cutOK X [(1786, lwK, lwQ j)]) {vs : List Value} {es : List gE} {k n : Nat} (hp : lwP Ls j vs es k n) : G X 622 (lwK.zip vs) [] es k n := by
  obtain ⟨c, wy, f, g, E, th, hj, hLs, hinv, hmw, rfl, rfl, hk, hn⟩ := hp
  obtain ⟨k9, ans, c', hr, hinv', hk9⟩ := e_appendText (xs (5 * j + 1)) hinv
  refine wr_ok (kq_8 h) hc 9 622 _ _ _ _ _ ?_
  refine ⟨5 * j + 1, nI_add _ _, by omega, ?_⟩
  refine ⟨⟨by omega, by omega⟩, c, wy, f, g, _, rfl, ?_⟩
  refine ⟨c, wy, f, g, _, k9, ans, c', rfl, hinv, hr, rfl, fun wy' f' hf' => ?_⟩
  refine ⟨c', wy', f', g, rfl, ?_⟩
  refine ⟨5 * j + 1, nI_add _ _, by omega, ?_⟩
  refine ⟨⟨by omega, by omega⟩, c', wy', f', g, E, rfl, ⟨c, th, hmw⟩, ?_⟩
  refine ⟨c, th, _, k9, ans, c', rfl, hinv, hmw, hr, fun E' hE' => ?_⟩
  refine ⟨⟨c', _, hE'⟩, rfl, ?_⟩
  refine ⟨⟨by omega, by omega⟩, c', wy', f', g, E', rfl, ⟨c', _, hE'⟩, ?_⟩
  refine ⟨c', _, rfl, hE', ?_⟩
  refine ⟨⟨c', _, hE'⟩, rfl, ?_⟩
  refine ⟨fun _ => ?_, fun z => absurd rfl z⟩
  refine ⟨fun _ => ⟨c', wy', f', g, E', _, hinv', hE', rfl, rfl, by omega, by omega⟩, fun z0 => ?_⟩
  obtain rfl := nI_z z0 hk9
  refine ⟨rfl, c', wy', f', g, _, rfl, ?_⟩
  refine ⟨fun _ => ⟨c', wy', f', g, E', _, hinv', hE', rfl, rfl, by omega, by omega⟩, fun z1 => absurd ?_ z1⟩
  show lg_cmp (f' 0) ans.toInt64 = 0
  rw [hf' rfl]
  exact lg_self _
def q_9 (Ls : Nat) (xs : Nat → Int32) : List (Nat × gO) := [(678, oFR 0 (oALoad 1)), (679, oLV 601024 7293034 0 s6_clearText), (682, oFR 0 (oALoad 2)), (683, oLM 601024 7293034 0 sX7_clearText), (686, oFR 0 (oICmp_eq 1786)), (689, oConst (nI 0)), (690, oLEnd)]
set_option maxRecDepth 100000 in
theorem kq_9 {X : gX} {l : Launch} {b Ls : Nat} {xs : Nat → Int32} (h : lawX X l b Ls xs) : okL X (q_9 Ls xs) := by
  obtain ⟨hM, hSc, hLE, hC9, hl, hnL⟩ := h
  obtain ⟨p, l1, e, R, s, m, args, below, meth, c, D, cA, A, ag, ad0, Q, nL⟩ := X
  cases hnL
  refine ⟨ok_FR (ok_aload_n hM 1 dL_law_678 rfl),
    ok_lV hM (c6_clearText l) gL_law_X6_clearText rfl rfl rfl (by decide +kernel) (by decide) dL_law_679,
    ok_FR (ok_aload_n hM 2 dL_law_682 rfl),
    ok_lM hM (ctX7_clearText l) gL_law_X7_clearText rfl rfl rfl (by decide +kernel) (by decide) dL_law_683,
    ok_FR (ok_icmp_eq hM 1786 dL_law_686 (by decide)),
    ok_iconst hM dL_law_689 rfl,
    ok_lend hLE dL_law_690,
    trivial⟩
theorem case_9 {X : gX} {l : Launch} {b Ls : Nat} {xs : Nat → Int32} (h : lawX X l b Ls xs) {j : Nat} (hc : cutOK X [(1786, lwK, lwQ j)]) {vs : List Value} {es : List gE} {k n : Nat} (hp : lwP Ls j vs es k n) : G X 678 (lwK.zip vs) [] es k n := by
  obtain ⟨c, wy, f, g, E, th, hj, hLs, hinv, hmw, rfl, rfl, hk, hn⟩ := hp
  refine wr_ok (kq_9 h) hc 9 678 _ _ _ _ _ ?_
  refine ⟨⟨by omega, by omega⟩, c, wy, f, g, _, rfl, ?_⟩
  refine ⟨c, wy, rfl, hinv, rfl, fun wy' => ?_⟩
  refine ⟨(m_clearText c), wy', rfl, ?_⟩
  refine ⟨⟨by omega, by omega⟩, (m_clearText c), wy', f, g, E, rfl, ⟨c, th, hmw⟩, ?_⟩
  refine ⟨c, th, rfl, hinv, hmw, fun E' hE' => ?_⟩
  refine ⟨⟨(m_clearText c), _, hE'⟩, rfl, ?_⟩
  exact ⟨fun _ => ⟨(m_clearText c), wy', f, g, E', _, (i_clearText hinv), hE', rfl, rfl, by omega, by omega⟩, fun z => absurd rfl z⟩
def q_10 (Ls : Nat) (xs : Nat → Int32) : List (Nat × gO) := [(691, oFR 0 (oALoad 1)), (692, oLV 601024 7293034 0 s6_errorPosition), (695, oFR 0 (oALoad 2)), (696, oLM 601024 7293034 0 sX7_errorPosition), (699, oFR 0 (oICmp_eq 1786)), (702, oConst (nI 0)), (703, oLEnd)]
set_option maxRecDepth 100000 in
theorem kq_10 {X : gX} {l : Launch} {b Ls : Nat} {xs : Nat → Int32} (h : lawX X l b Ls xs) : okL X (q_10 Ls xs) := by
  obtain ⟨hM, hSc, hLE, hC9, hl, hnL⟩ := h
  obtain ⟨p, l1, e, R, s, m, args, below, meth, c, D, cA, A, ag, ad0, Q, nL⟩ := X
  cases hnL
  refine ⟨ok_FR (ok_aload_n hM 1 dL_law_691 rfl),
    ok_lV hM (c6_errorPosition l) gL_law_X6_errorPosition rfl rfl rfl (by decide +kernel) (by decide) dL_law_692,
    ok_FR (ok_aload_n hM 2 dL_law_695 rfl),
    ok_lM hM (ctX7_errorPosition l) gL_law_X7_errorPosition rfl rfl rfl (by decide +kernel) (by decide) dL_law_696,
    ok_FR (ok_icmp_eq hM 1786 dL_law_699 (by decide)),
    ok_iconst hM dL_law_702 rfl,
    ok_lend hLE dL_law_703,
    trivial⟩
theorem case_10 {X : gX} {l : Launch} {b Ls : Nat} {xs : Nat → Int32} (h : lawX X l b Ls xs) {j : Nat} (hc : cutOK X [(1786, lwK, lwQ j)]) {vs : List Value} {es : List gE} {k n : Nat} (hp : lwP Ls j vs es k n) : G X 691 (lwK.zip vs) [] es k n := by
  obtain ⟨c, wy, f, g, E, th, hj, hLs, hinv, hmw, rfl, rfl, hk, hn⟩ := hp
  refine wr_ok (kq_10 h) hc 9 691 _ _ _ _ _ ?_
  refine ⟨⟨by omega, by omega⟩, c, wy, f, g, _, rfl, ?_⟩
  refine ⟨c, wy, rfl, hinv, rfl, fun wy' => ?_⟩
  refine ⟨c, wy', rfl, ?_⟩
  refine ⟨⟨by omega, by omega⟩, c, wy', f, g, E, rfl, ⟨c, th, hmw⟩, ?_⟩
  refine ⟨c, th, rfl, hinv, hmw, fun E' hE' => ?_⟩
  refine ⟨⟨c, _, hE'⟩, rfl, ?_⟩
  exact ⟨fun _ => ⟨c, wy', f, g, E', _, hinv, hE', rfl, rfl, by omega, by omega⟩, fun z => absurd rfl z⟩
def q_11 (Ls : Nat) (xs : Nat → Int32) : List (Nat × gO) := [(704, oFR 0 (oALoad 1)), (705, oALoad 3), (706, oLS 601024 7293034 1 6 2 sL_runText), (709, oFR 0 (oIStore 9 6)), (711, oALoad 2), (712, oLM 601024 7293034 0 sX7_runText), (715, oFR 0 (oIStore 9 7)), (717, oALoad 2), (718, oLM 601024 7293034 0 s7_thrown), (721, oFR 0 (oILoad 6)), (723, oICmp_eq 728), (726, oConst (nI 0)), (727, oLEnd), (728, oILoad 6), (730, oIf_ne 745), (733, oALoad 3), (734, oConst (nI 0)), (735, oGetL), (736, oILoad 7), (738, oI2L), (739, oLCmp), (740, oIf_eq 745), (743, oConst (nI 0)), (744, oLEnd), (745, oGoto 1786)]
set_option maxRecDepth 100000 in
theorem kq_11 {X : gX} {l : Launch} {b Ls : Nat} {xs : Nat → Int32} (h : lawX X l b Ls xs) : okL X (q_11 Ls xs) := by
  obtain ⟨hM, hSc, hLE, hC9, hl, hnL⟩ := h
  obtain ⟨p, l1, e, R, s, m, args, below, meth, c, D, cA, A, ag, ad0, Q, nL⟩ := X
  cases hnL
  refine ⟨ok_FR (ok_aload_n hM 1 dL_law_704 rfl),
    ok_aload_n hM 3 dL_law_705 rfl,
    ok_lS hM hC9 (ctL_runText l hl) gL_law_L_runText rfl rfl rfl (by decide +kernel) (by decide) dL_law_706,
    ok_FR (ok_istore hM 6 dL_law_709),
    ok_aload_n hM 2 dL_law_711 rfl,
    ok_lM hM (ctX7_runText l) gL_law_X7_runText rfl rfl rfl (by decide +kernel) (by decide) dL_law_712,
    ok_FR (ok_istore hM 7 dL_law_715),
    ok_aload_n hM 2 dL_law_717 rfl,
    ok_lM hM (c7_thrown l) gL_law_X7_thrown rfl rfl rfl (by decide +kernel) (by decide) dL_law_718,
    ok_FR (ok_iload hM 6 dL_law_721),
    ok_icmp_eq hM 728 dL_law_723 (by decide),
    ok_iconst hM dL_law_726 rfl,
    ok_lend hLE dL_law_727,
    ok_iload hM 6 dL_law_728,
    ok_if_ne hM 745 dL_law_730 (by decide),
    ok_aload_n hM 3 dL_law_733 rfl,
    ok_iconst hM dL_law_734 rfl,
    ok_getL (ok_lald hM dL_law_735),
    ok_iload hM 7 dL_law_736,
    ok_i2l hM dL_law_738,
    ok_lcmp hM dL_law_739,
    ok_if_eq hM 745 dL_law_740 (by decide),
    ok_iconst hM dL_law_743 rfl,
    ok_lend hLE dL_law_744,
    ok_goto hM 1786 dL_law_745 (by decide),
    trivial⟩
theorem case_11 {X : gX} {l : Launch} {b Ls : Nat} {xs : Nat → Int32} (h : lawX X l b Ls xs) {j : Nat} (hc : cutOK X [(1786, lwK, lwQ j)]) {vs : List Value} {es : List gE} {k n : Nat} (hp : lwP Ls j vs es k n) : G X 704 (lwK.zip vs) [] es k n := by
  obtain ⟨c, wy, f, g, E, th, hj, hLs, hinv, hmw, rfl, rfl, hk, hn⟩ := hp
  obtain ⟨k9, ans, c', hr, hinv', hk9⟩ := e_runText hinv
  refine wr_ok (kq_11 h) hc 9 704 _ _ _ _ _ ?_
  refine ⟨⟨by omega, by omega⟩, c, wy, f, g, _, rfl, ?_⟩
  refine ⟨c, wy, f, g, k9, ans, c', rfl, hinv, hr, rfl, fun wy' f' hf' => ?_⟩
  refine ⟨c', wy', f', g, rfl, ?_⟩
  refine ⟨⟨by omega, by omega⟩, c', wy', f', g, E, rfl, ⟨c, th, hmw⟩, ?_⟩
  refine ⟨c, th, k9, ans, c', rfl, hinv, hmw, hr, fun E' hE' => ?_⟩
  refine ⟨⟨c', _, hE'⟩, rfl, ?_⟩
  refine ⟨⟨by omega, by omega⟩, c', wy', f', g, E', rfl, ⟨c', _, hE'⟩, ?_⟩
  refine ⟨c', _, rfl, hE', ?_⟩
  refine ⟨⟨c', _, hE'⟩, rfl, ?_⟩
  refine ⟨fun _ => ?_, fun z => absurd rfl z⟩
  refine ⟨fun _ => ⟨c', wy', f', g, E', _, hinv', hE', rfl, rfl, by omega, by omega⟩, fun z0 => ?_⟩
  obtain rfl := nI_z z0 hk9
  refine ⟨rfl, c', wy', f', g, _, rfl, ?_⟩
  refine ⟨fun _ => ⟨c', wy', f', g, E', _, hinv', hE', rfl, rfl, by omega, by omega⟩, fun z1 => absurd ?_ z1⟩
  show lg_cmp (f' 0) ans.toInt64 = 0
  rw [hf' rfl]
  exact lg_self _
def q_12 (Ls : Nat) (xs : Nat → Int32) : List (Nat × gO) := [(748, oFR 0 (oALoad 1)), (749, oALoad 3), (750, oLS 601024 7293034 1 6 2 sL_undo), (753, oFR 0 (oIStore 9 6)), (755, oALoad 2), (756, oLM 601024 7293034 0 sX7_undo), (759, oFR 0 (oIStore 9 7)), (761, oALoad 2), (762, oLM 601024 7293034 0 s7_thrown), (765, oFR 0 (oILoad 6)), (767, oICmp_eq 772), (770, oConst (nI 0)), (771, oLEnd), (772, oILoad 6), (774, oIf_ne 789), (777, oALoad 3), (778, oConst (nI 0)), (779, oGetL), (780, oILoad 7), (782, oI2L), (783, oLCmp), (784, oIf_eq 789), (787, oConst (nI 0)), (788, oLEnd), (789, oGoto 1786)]
set_option maxRecDepth 100000 in
theorem kq_12 {X : gX} {l : Launch} {b Ls : Nat} {xs : Nat → Int32} (h : lawX X l b Ls xs) : okL X (q_12 Ls xs) := by
  obtain ⟨hM, hSc, hLE, hC9, hl, hnL⟩ := h
  obtain ⟨p, l1, e, R, s, m, args, below, meth, c, D, cA, A, ag, ad0, Q, nL⟩ := X
  cases hnL
  refine ⟨ok_FR (ok_aload_n hM 1 dL_law_748 rfl),
    ok_aload_n hM 3 dL_law_749 rfl,
    ok_lS hM hC9 (ctL_undo l hl) gL_law_L_undo rfl rfl rfl (by decide +kernel) (by decide) dL_law_750,
    ok_FR (ok_istore hM 6 dL_law_753),
    ok_aload_n hM 2 dL_law_755 rfl,
    ok_lM hM (ctX7_undo l) gL_law_X7_undo rfl rfl rfl (by decide +kernel) (by decide) dL_law_756,
    ok_FR (ok_istore hM 7 dL_law_759),
    ok_aload_n hM 2 dL_law_761 rfl,
    ok_lM hM (c7_thrown l) gL_law_X7_thrown rfl rfl rfl (by decide +kernel) (by decide) dL_law_762,
    ok_FR (ok_iload hM 6 dL_law_765),
    ok_icmp_eq hM 772 dL_law_767 (by decide),
    ok_iconst hM dL_law_770 rfl,
    ok_lend hLE dL_law_771,
    ok_iload hM 6 dL_law_772,
    ok_if_ne hM 789 dL_law_774 (by decide),
    ok_aload_n hM 3 dL_law_777 rfl,
    ok_iconst hM dL_law_778 rfl,
    ok_getL (ok_lald hM dL_law_779),
    ok_iload hM 7 dL_law_780,
    ok_i2l hM dL_law_782,
    ok_lcmp hM dL_law_783,
    ok_if_eq hM 789 dL_law_784 (by decide),
    ok_iconst hM dL_law_787 rfl,
    ok_lend hLE dL_law_788,
    ok_goto hM 1786 dL_law_789 (by decide),
    trivial⟩
theorem case_12 {X : gX} {l : Launch} {b Ls : Nat} {xs : Nat → Int32} (h : lawX X l b Ls xs) {j : Nat} (hc : cutOK X [(1786, lwK, lwQ j)]) {vs : List Value} {es : List gE} {k n : Nat} (hp : lwP Ls j vs es k n) : G X 748 (lwK.zip vs) [] es k n := by
  obtain ⟨c, wy, f, g, E, th, hj, hLs, hinv, hmw, rfl, rfl, hk, hn⟩ := hp
  obtain ⟨k9, ans, c', hr, hinv', hk9⟩ := e_undo hinv
  refine wr_ok (kq_12 h) hc 9 748 _ _ _ _ _ ?_
  refine ⟨⟨by omega, by omega⟩, c, wy, f, g, _, rfl, ?_⟩
  refine ⟨c, wy, f, g, k9, ans, c', rfl, hinv, hr, rfl, fun wy' f' hf' => ?_⟩
  refine ⟨c', wy', f', g, rfl, ?_⟩
  refine ⟨⟨by omega, by omega⟩, c', wy', f', g, E, rfl, ⟨c, th, hmw⟩, ?_⟩
  refine ⟨c, th, k9, ans, c', rfl, hinv, hmw, hr, fun E' hE' => ?_⟩
  refine ⟨⟨c', _, hE'⟩, rfl, ?_⟩
  refine ⟨⟨by omega, by omega⟩, c', wy', f', g, E', rfl, ⟨c', _, hE'⟩, ?_⟩
  refine ⟨c', _, rfl, hE', ?_⟩
  refine ⟨⟨c', _, hE'⟩, rfl, ?_⟩
  refine ⟨fun _ => ?_, fun z => absurd rfl z⟩
  refine ⟨fun _ => ⟨c', wy', f', g, E', _, hinv', hE', rfl, rfl, by omega, by omega⟩, fun z0 => ?_⟩
  obtain rfl := nI_z z0 hk9
  refine ⟨rfl, c', wy', f', g, _, rfl, ?_⟩
  refine ⟨fun _ => ⟨c', wy', f', g, E', _, hinv', hE', rfl, rfl, by omega, by omega⟩, fun z1 => absurd ?_ z1⟩
  show lg_cmp (f' 0) ans.toInt64 = 0
  rw [hf' rfl]
  exact lg_self _
def q_13 (Ls : Nat) (xs : Nat → Int32) : List (Nat × gO) := [(792, oFR 0 (oALoad 1)), (793, oALoad 0), (794, oILoad 5), (796, oConst (nI 1)), (797, oAdd), (798, oSld Ls xs 1999), (799, oALoad 3), (800, oLS 601024 7293034 1 6 3 sL_save), (803, oFR 0 (oIStore 9 6)), (805, oALoad 2), (806, oALoad 0), (807, oILoad 5), (809, oConst (nI 1)), (810, oAdd), (811, oSld Ls xs 1999), (812, oLM 601024 7293034 1 sX7_save), (815, oFR 0 (oIStore 9 7)), (817, oALoad 2), (818, oLM 601024 7293034 0 s7_thrown), (821, oFR 0 (oILoad 6)), (823, oICmp_eq 828), (826, oConst (nI 0)), (827, oLEnd), (828, oILoad 6), (830, oIf_ne 845), (833, oALoad 3), (834, oConst (nI 0)), (835, oGetL), (836, oILoad 7), (838, oI2L), (839, oLCmp), (840, oIf_eq 845), (843, oConst (nI 0)), (844, oLEnd), (845, oGoto 1786)]
set_option maxRecDepth 100000 in
theorem kq_13 {X : gX} {l : Launch} {b Ls : Nat} {xs : Nat → Int32} (h : lawX X l b Ls xs) : okL X (q_13 Ls xs) := by
  obtain ⟨hM, hSc, hLE, hC9, hl, hnL⟩ := h
  obtain ⟨p, l1, e, R, s, m, args, below, meth, c, D, cA, A, ag, ad0, Q, nL⟩ := X
  cases hnL
  refine ⟨ok_FR (ok_aload_n hM 1 dL_law_792 rfl),
    ok_aload_n hM 0 dL_law_793 rfl,
    ok_iload hM 5 dL_law_794,
    ok_iconst hM dL_law_796 rfl,
    ok_iadd hM dL_law_797,
    ok_sld hM hSc dL_law_798,
    ok_aload_n hM 3 dL_law_799 rfl,
    ok_lS hM hC9 (ctL_save l hl) gL_law_L_save rfl rfl rfl (by decide +kernel) (by decide) dL_law_800,
    ok_FR (ok_istore hM 6 dL_law_803),
    ok_aload_n hM 2 dL_law_805 rfl,
    ok_aload_n hM 0 dL_law_806 rfl,
    ok_iload hM 5 dL_law_807,
    ok_iconst hM dL_law_809 rfl,
    ok_iadd hM dL_law_810,
    ok_sld hM hSc dL_law_811,
    ok_lM hM (ctX7_save l) gL_law_X7_save rfl rfl rfl (by decide +kernel) (by decide) dL_law_812,
    ok_FR (ok_istore hM 7 dL_law_815),
    ok_aload_n hM 2 dL_law_817 rfl,
    ok_lM hM (c7_thrown l) gL_law_X7_thrown rfl rfl rfl (by decide +kernel) (by decide) dL_law_818,
    ok_FR (ok_iload hM 6 dL_law_821),
    ok_icmp_eq hM 828 dL_law_823 (by decide),
    ok_iconst hM dL_law_826 rfl,
    ok_lend hLE dL_law_827,
    ok_iload hM 6 dL_law_828,
    ok_if_ne hM 845 dL_law_830 (by decide),
    ok_aload_n hM 3 dL_law_833 rfl,
    ok_iconst hM dL_law_834 rfl,
    ok_getL (ok_lald hM dL_law_835),
    ok_iload hM 7 dL_law_836,
    ok_i2l hM dL_law_838,
    ok_lcmp hM dL_law_839,
    ok_if_eq hM 845 dL_law_840 (by decide),
    ok_iconst hM dL_law_843 rfl,
    ok_lend hLE dL_law_844,
    ok_goto hM 1786 dL_law_845 (by decide),
    trivial⟩
theorem case_13 {X : gX} {l : Launch} {b Ls : Nat} {xs : Nat → Int32} (h : lawX X l b Ls xs) {j : Nat} (hc : cutOK X [(1786, lwK, lwQ j)]) {vs : List Value} {es : List gE} {k n : Nat} (hp : lwP Ls j vs es k n) : G X 792 (lwK.zip vs) [] es k n := by
  obtain ⟨c, wy, f, g, E, th, hj, hLs, hinv, hmw, rfl, rfl, hk, hn⟩ := hp
  obtain ⟨k9, ans, c', hr, hinv', hk9⟩ := e_save (xs (5 * j + 1)) hinv
  refine wr_ok (kq_13 h) hc 9 792 _ _ _ _ _ ?_
  refine ⟨5 * j + 1, nI_add _ _, by omega, ?_⟩
  refine ⟨⟨by omega, by omega⟩, c, wy, f, g, _, rfl, ?_⟩
  refine ⟨c, wy, f, g, _, k9, ans, c', rfl, hinv, hr, rfl, fun wy' f' hf' => ?_⟩
  refine ⟨c', wy', f', g, rfl, ?_⟩
  refine ⟨5 * j + 1, nI_add _ _, by omega, ?_⟩
  refine ⟨⟨by omega, by omega⟩, c', wy', f', g, E, rfl, ⟨c, th, hmw⟩, ?_⟩
  refine ⟨c, th, _, k9, ans, c', rfl, hinv, hmw, hr, fun E' hE' => ?_⟩
  refine ⟨⟨c', _, hE'⟩, rfl, ?_⟩
  refine ⟨⟨by omega, by omega⟩, c', wy', f', g, E', rfl, ⟨c', _, hE'⟩, ?_⟩
  refine ⟨c', _, rfl, hE', ?_⟩
  refine ⟨⟨c', _, hE'⟩, rfl, ?_⟩
  refine ⟨fun _ => ?_, fun z => absurd rfl z⟩
  refine ⟨fun _ => ⟨c', wy', f', g, E', _, hinv', hE', rfl, rfl, by omega, by omega⟩, fun z0 => ?_⟩
  obtain rfl := nI_z z0 hk9
  refine ⟨rfl, c', wy', f', g, _, rfl, ?_⟩
  refine ⟨fun _ => ⟨c', wy', f', g, E', _, hinv', hE', rfl, rfl, by omega, by omega⟩, fun z1 => absurd ?_ z1⟩
  show lg_cmp (f' 0) ans.toInt64 = 0
  rw [hf' rfl]
  exact lg_self _
def q_14 (Ls : Nat) (xs : Nat → Int32) : List (Nat × gO) := [(848, oFR 0 (oALoad 1)), (849, oALoad 0), (850, oILoad 5), (852, oConst (nI 1)), (853, oAdd), (854, oSld Ls xs 1999), (855, oALoad 3), (856, oLS 601024 7293034 2 12 3 sL_restore), (859, oFR 0 (oIStore 9 6)), (861, oALoad 2), (862, oALoad 0), (863, oILoad 5), (865, oConst (nI 1)), (866, oAdd), (867, oSld Ls xs 1999), (868, oLM 601024 7293034 1 sX7_restore), (871, oFR 0 (oIStore 9 7)), (873, oALoad 2), (874, oLM 601024 7293034 0 s7_thrown), (877, oFR 0 (oILoad 6)), (879, oICmp_eq 884), (882, oConst (nI 0)), (883, oLEnd), (884, oILoad 6), (886, oIf_ne 901), (889, oALoad 3), (890, oConst (nI 0)), (891, oGetL), (892, oILoad 7), (894, oI2L), (895, oLCmp), (896, oIf_eq 901), (899, oConst (nI 0)), (900, oLEnd), (901, oGoto 1786)]
set_option maxRecDepth 100000 in
theorem kq_14 {X : gX} {l : Launch} {b Ls : Nat} {xs : Nat → Int32} (h : lawX X l b Ls xs) : okL X (q_14 Ls xs) := by
  obtain ⟨hM, hSc, hLE, hC9, hl, hnL⟩ := h
  obtain ⟨p, l1, e, R, s, m, args, below, meth, c, D, cA, A, ag, ad0, Q, nL⟩ := X
  cases hnL
  refine ⟨ok_FR (ok_aload_n hM 1 dL_law_848 rfl),
    ok_aload_n hM 0 dL_law_849 rfl,
    ok_iload hM 5 dL_law_850,
    ok_iconst hM dL_law_852 rfl,
    ok_iadd hM dL_law_853,
    ok_sld hM hSc dL_law_854,
    ok_aload_n hM 3 dL_law_855 rfl,
    ok_lS hM hC9 (ctL_restore l hl) gL_law_L_restore rfl rfl rfl (by decide +kernel) (by decide) dL_law_856,
    ok_FR (ok_istore hM 6 dL_law_859),
    ok_aload_n hM 2 dL_law_861 rfl,
    ok_aload_n hM 0 dL_law_862 rfl,
    ok_iload hM 5 dL_law_863,
    ok_iconst hM dL_law_865 rfl,
    ok_iadd hM dL_law_866,
    ok_sld hM hSc dL_law_867,
    ok_lM hM (ctX7_restore l) gL_law_X7_restore rfl rfl rfl (by decide +kernel) (by decide) dL_law_868,
    ok_FR (ok_istore hM 7 dL_law_871),
    ok_aload_n hM 2 dL_law_873 rfl,
    ok_lM hM (c7_thrown l) gL_law_X7_thrown rfl rfl rfl (by decide +kernel) (by decide) dL_law_874,
    ok_FR (ok_iload hM 6 dL_law_877),
    ok_icmp_eq hM 884 dL_law_879 (by decide),
    ok_iconst hM dL_law_882 rfl,
    ok_lend hLE dL_law_883,
    ok_iload hM 6 dL_law_884,
    ok_if_ne hM 901 dL_law_886 (by decide),
    ok_aload_n hM 3 dL_law_889 rfl,
    ok_iconst hM dL_law_890 rfl,
    ok_getL (ok_lald hM dL_law_891),
    ok_iload hM 7 dL_law_892,
    ok_i2l hM dL_law_894,
    ok_lcmp hM dL_law_895,
    ok_if_eq hM 901 dL_law_896 (by decide),
    ok_iconst hM dL_law_899 rfl,
    ok_lend hLE dL_law_900,
    ok_goto hM 1786 dL_law_901 (by decide),
    trivial⟩
theorem case_14 {X : gX} {l : Launch} {b Ls : Nat} {xs : Nat → Int32} (h : lawX X l b Ls xs) {j : Nat} (hc : cutOK X [(1786, lwK, lwQ j)]) {vs : List Value} {es : List gE} {k n : Nat} (hp : lwP Ls j vs es k n) : G X 848 (lwK.zip vs) [] es k n := by
  obtain ⟨c, wy, f, g, E, th, hj, hLs, hinv, hmw, rfl, rfl, hk, hn⟩ := hp
  obtain ⟨k9, ans, c', hr, hinv', hk9⟩ := e_restore (xs (5 * j + 1)) hinv
  refine wr_ok (kq_14 h) hc 9 848 _ _ _ _ _ ?_
  refine ⟨5 * j + 1, nI_add _ _, by omega, ?_⟩
  refine ⟨⟨by omega, by omega⟩, c, wy, f, g, _, rfl, ?_⟩
  refine ⟨c, wy, f, g, _, k9, ans, c', rfl, hinv, hr, rfl, fun wy' f' hf' => ?_⟩
  refine ⟨c', wy', f', g, rfl, ?_⟩
  refine ⟨5 * j + 1, nI_add _ _, by omega, ?_⟩
  refine ⟨⟨by omega, by omega⟩, c', wy', f', g, E, rfl, ⟨c, th, hmw⟩, ?_⟩
  refine ⟨c, th, _, k9, ans, c', rfl, hinv, hmw, hr, fun E' hE' => ?_⟩
  refine ⟨⟨c', _, hE'⟩, rfl, ?_⟩
  refine ⟨⟨by omega, by omega⟩, c', wy', f', g, E', rfl, ⟨c', _, hE'⟩, ?_⟩
  refine ⟨c', _, rfl, hE', ?_⟩
  refine ⟨⟨c', _, hE'⟩, rfl, ?_⟩
  refine ⟨fun _ => ?_, fun z => absurd rfl z⟩
  refine ⟨fun _ => ⟨c', wy', f', g, E', _, hinv', hE', rfl, rfl, by omega, by omega⟩, fun z0 => ?_⟩
  obtain rfl := nI_z z0 hk9
  refine ⟨rfl, c', wy', f', g, _, rfl, ?_⟩
  refine ⟨fun _ => ⟨c', wy', f', g, E', _, hinv', hE', rfl, rfl, by omega, by omega⟩, fun z1 => absurd ?_ z1⟩
  show lg_cmp (f' 0) ans.toInt64 = 0
  rw [hf' rfl]
  exact lg_self _
def q_15 (Ls : Nat) (xs : Nat → Int32) : List (Nat × gO) := [(904, oFR 0 (oALoad 1)), (905, oALoad 0), (906, oILoad 5), (908, oConst (nI 1)), (909, oAdd), (910, oSld Ls xs 1999), (911, oALoad 3), (912, oLS 601024 7293034 1 6 3 sL_owner), (915, oFR 0 (oIStore 9 6)), (917, oALoad 2), (918, oALoad 0), (919, oILoad 5), (921, oConst (nI 1)), (922, oAdd), (923, oSld Ls xs 1999), (924, oLM 601024 7293034 1 sX7_owner), (927, oFR 0 (oIStore 9 7)), (929, oALoad 2), (930, oLM 601024 7293034 0 s7_thrown), (933, oFR 0 (oILoad 6)), (935, oICmp_eq 940), (938, oConst (nI 0)), (939, oLEnd), (940, oILoad 6), (942, oIf_ne 957), (945, oALoad 3), (946, oConst (nI 0)), (947, oGetL), (948, oILoad 7), (950, oI2L), (951, oLCmp), (952, oIf_eq 957), (955, oConst (nI 0)), (956, oLEnd), (957, oGoto 1786)]
set_option maxRecDepth 100000 in
theorem kq_15 {X : gX} {l : Launch} {b Ls : Nat} {xs : Nat → Int32} (h : lawX X l b Ls xs) : okL X (q_15 Ls xs) := by
  obtain ⟨hM, hSc, hLE, hC9, hl, hnL⟩ := h
  obtain ⟨p, l1, e, R, s, m, args, below, meth, c, D, cA, A, ag, ad0, Q, nL⟩ := X
  cases hnL
  refine ⟨ok_FR (ok_aload_n hM 1 dL_law_904 rfl),
    ok_aload_n hM 0 dL_law_905 rfl,
    ok_iload hM 5 dL_law_906,
    ok_iconst hM dL_law_908 rfl,
    ok_iadd hM dL_law_909,
    ok_sld hM hSc dL_law_910,
    ok_aload_n hM 3 dL_law_911 rfl,
    ok_lS hM hC9 (ctL_owner l hl) gL_law_L_owner rfl rfl rfl (by decide +kernel) (by decide) dL_law_912,
    ok_FR (ok_istore hM 6 dL_law_915),
    ok_aload_n hM 2 dL_law_917 rfl,
    ok_aload_n hM 0 dL_law_918 rfl,
    ok_iload hM 5 dL_law_919,
    ok_iconst hM dL_law_921 rfl,
    ok_iadd hM dL_law_922,
    ok_sld hM hSc dL_law_923,
    ok_lM hM (ctX7_owner l) gL_law_X7_owner rfl rfl rfl (by decide +kernel) (by decide) dL_law_924,
    ok_FR (ok_istore hM 7 dL_law_927),
    ok_aload_n hM 2 dL_law_929 rfl,
    ok_lM hM (c7_thrown l) gL_law_X7_thrown rfl rfl rfl (by decide +kernel) (by decide) dL_law_930,
    ok_FR (ok_iload hM 6 dL_law_933),
    ok_icmp_eq hM 940 dL_law_935 (by decide),
    ok_iconst hM dL_law_938 rfl,
    ok_lend hLE dL_law_939,
    ok_iload hM 6 dL_law_940,
    ok_if_ne hM 957 dL_law_942 (by decide),
    ok_aload_n hM 3 dL_law_945 rfl,
    ok_iconst hM dL_law_946 rfl,
    ok_getL (ok_lald hM dL_law_947),
    ok_iload hM 7 dL_law_948,
    ok_i2l hM dL_law_950,
    ok_lcmp hM dL_law_951,
    ok_if_eq hM 957 dL_law_952 (by decide),
    ok_iconst hM dL_law_955 rfl,
    ok_lend hLE dL_law_956,
    ok_goto hM 1786 dL_law_957 (by decide),
    trivial⟩
theorem case_15 {X : gX} {l : Launch} {b Ls : Nat} {xs : Nat → Int32} (h : lawX X l b Ls xs) {j : Nat} (hc : cutOK X [(1786, lwK, lwQ j)]) {vs : List Value} {es : List gE} {k n : Nat} (hp : lwP Ls j vs es k n) : G X 904 (lwK.zip vs) [] es k n := by
  obtain ⟨c, wy, f, g, E, th, hj, hLs, hinv, hmw, rfl, rfl, hk, hn⟩ := hp
  obtain ⟨k9, ans, c', hr, hinv', hk9⟩ := e_owner (xs (5 * j + 1)) hinv
  refine wr_ok (kq_15 h) hc 9 904 _ _ _ _ _ ?_
  refine ⟨5 * j + 1, nI_add _ _, by omega, ?_⟩
  refine ⟨⟨by omega, by omega⟩, c, wy, f, g, _, rfl, ?_⟩
  refine ⟨c, wy, f, g, _, k9, ans, c', rfl, hinv, hr, rfl, fun wy' f' hf' => ?_⟩
  refine ⟨c', wy', f', g, rfl, ?_⟩
  refine ⟨5 * j + 1, nI_add _ _, by omega, ?_⟩
  refine ⟨⟨by omega, by omega⟩, c', wy', f', g, E, rfl, ⟨c, th, hmw⟩, ?_⟩
  refine ⟨c, th, _, k9, ans, c', rfl, hinv, hmw, hr, fun E' hE' => ?_⟩
  refine ⟨⟨c', _, hE'⟩, rfl, ?_⟩
  refine ⟨⟨by omega, by omega⟩, c', wy', f', g, E', rfl, ⟨c', _, hE'⟩, ?_⟩
  refine ⟨c', _, rfl, hE', ?_⟩
  refine ⟨⟨c', _, hE'⟩, rfl, ?_⟩
  refine ⟨fun _ => ?_, fun z => absurd rfl z⟩
  refine ⟨fun _ => ⟨c', wy', f', g, E', _, hinv', hE', rfl, rfl, by omega, by omega⟩, fun z0 => ?_⟩
  obtain rfl := nI_z z0 hk9
  refine ⟨rfl, c', wy', f', g, _, rfl, ?_⟩
  refine ⟨fun _ => ⟨c', wy', f', g, E', _, hinv', hE', rfl, rfl, by omega, by omega⟩, fun z1 => absurd ?_ z1⟩
  show lg_cmp (f' 0) ans.toInt64 = 0
  rw [hf' rfl]
  exact lg_self _
def q_16 (Ls : Nat) (xs : Nat → Int32) : List (Nat × gO) := [(960, oFR 0 (oALoad 1)), (961, oALoad 0), (962, oILoad 5), (964, oConst (nI 1)), (965, oAdd), (966, oSld Ls xs 1999), (967, oALoad 3), (968, oLS 601024 7293034 1 6 3 sL_waysOf), (971, oFR 0 (oIStore 9 6)), (973, oALoad 2), (974, oALoad 0), (975, oILoad 5), (977, oConst (nI 1)), (978, oAdd), (979, oSld Ls xs 1999), (980, oLM 601024 7293034 1 sX7_waysOf), (983, oFR 0 (oIStore 9 7)), (985, oALoad 2), (986, oLM 601024 7293034 0 s7_thrown), (989, oFR 0 (oILoad 6)), (991, oICmp_eq 996), (994, oConst (nI 0)), (995, oLEnd), (996, oILoad 6), (998, oIf_ne 1013), (1001, oALoad 3), (1002, oConst (nI 0)), (1003, oGetL), (1004, oILoad 7), (1006, oI2L), (1007, oLCmp), (1008, oIf_eq 1013), (1011, oConst (nI 0)), (1012, oLEnd), (1013, oGoto 1786)]
set_option maxRecDepth 100000 in
theorem kq_16 {X : gX} {l : Launch} {b Ls : Nat} {xs : Nat → Int32} (h : lawX X l b Ls xs) : okL X (q_16 Ls xs) := by
  obtain ⟨hM, hSc, hLE, hC9, hl, hnL⟩ := h
  obtain ⟨p, l1, e, R, s, m, args, below, meth, c, D, cA, A, ag, ad0, Q, nL⟩ := X
  cases hnL
  refine ⟨ok_FR (ok_aload_n hM 1 dL_law_960 rfl),
    ok_aload_n hM 0 dL_law_961 rfl,
    ok_iload hM 5 dL_law_962,
    ok_iconst hM dL_law_964 rfl,
    ok_iadd hM dL_law_965,
    ok_sld hM hSc dL_law_966,
    ok_aload_n hM 3 dL_law_967 rfl,
    ok_lS hM hC9 (ctL_waysOf l hl) gL_law_L_waysOf rfl rfl rfl (by decide +kernel) (by decide) dL_law_968,
    ok_FR (ok_istore hM 6 dL_law_971),
    ok_aload_n hM 2 dL_law_973 rfl,
    ok_aload_n hM 0 dL_law_974 rfl,
    ok_iload hM 5 dL_law_975,
    ok_iconst hM dL_law_977 rfl,
    ok_iadd hM dL_law_978,
    ok_sld hM hSc dL_law_979,
    ok_lM hM (ctX7_waysOf l) gL_law_X7_waysOf rfl rfl rfl (by decide +kernel) (by decide) dL_law_980,
    ok_FR (ok_istore hM 7 dL_law_983),
    ok_aload_n hM 2 dL_law_985 rfl,
    ok_lM hM (c7_thrown l) gL_law_X7_thrown rfl rfl rfl (by decide +kernel) (by decide) dL_law_986,
    ok_FR (ok_iload hM 6 dL_law_989),
    ok_icmp_eq hM 996 dL_law_991 (by decide),
    ok_iconst hM dL_law_994 rfl,
    ok_lend hLE dL_law_995,
    ok_iload hM 6 dL_law_996,
    ok_if_ne hM 1013 dL_law_998 (by decide),
    ok_aload_n hM 3 dL_law_1001 rfl,
    ok_iconst hM dL_law_1002 rfl,
    ok_getL (ok_lald hM dL_law_1003),
    ok_iload hM 7 dL_law_1004,
    ok_i2l hM dL_law_1006,
    ok_lcmp hM dL_law_1007,
    ok_if_eq hM 1013 dL_law_1008 (by decide),
    ok_iconst hM dL_law_1011 rfl,
    ok_lend hLE dL_law_1012,
    ok_goto hM 1786 dL_law_1013 (by decide),
    trivial⟩
theorem case_16 {X : gX} {l : Launch} {b Ls : Nat} {xs : Nat → Int32} (h : lawX X l b Ls xs) {j : Nat} (hc : cutOK X [(1786, lwK, lwQ j)]) {vs : List Value} {es : List gE} {k n : Nat} (hp : lwP Ls j vs es k n) : G X 960 (lwK.zip vs) [] es k n := by
  obtain ⟨c, wy, f, g, E, th, hj, hLs, hinv, hmw, rfl, rfl, hk, hn⟩ := hp
  obtain ⟨k9, ans, c', hr, hinv', hk9⟩ := e_waysOf (xs (5 * j + 1)) hinv
  refine wr_ok (kq_16 h) hc 9 960 _ _ _ _ _ ?_
  refine ⟨5 * j + 1, nI_add _ _, by omega, ?_⟩
  refine ⟨⟨by omega, by omega⟩, c, wy, f, g, _, rfl, ?_⟩
  refine ⟨c, wy, f, g, _, k9, ans, c', rfl, hinv, hr, rfl, fun wy' f' hf' => ?_⟩
  refine ⟨c', wy', f', g, rfl, ?_⟩
  refine ⟨5 * j + 1, nI_add _ _, by omega, ?_⟩
  refine ⟨⟨by omega, by omega⟩, c', wy', f', g, E, rfl, ⟨c, th, hmw⟩, ?_⟩
  refine ⟨c, th, _, k9, ans, c', rfl, hinv, hmw, hr, fun E' hE' => ?_⟩
  refine ⟨⟨c', _, hE'⟩, rfl, ?_⟩
  refine ⟨⟨by omega, by omega⟩, c', wy', f', g, E', rfl, ⟨c', _, hE'⟩, ?_⟩
  refine ⟨c', _, rfl, hE', ?_⟩
  refine ⟨⟨c', _, hE'⟩, rfl, ?_⟩
  refine ⟨fun _ => ?_, fun z => absurd rfl z⟩
  refine ⟨fun _ => ⟨c', wy', f', g, E', _, hinv', hE', rfl, rfl, by omega, by omega⟩, fun z0 => ?_⟩
  obtain rfl := nI_z z0 hk9
  refine ⟨rfl, c', wy', f', g, _, rfl, ?_⟩
  refine ⟨fun _ => ⟨c', wy', f', g, E', _, hinv', hE', rfl, rfl, by omega, by omega⟩, fun z1 => absurd ?_ z1⟩
  show lg_cmp (f' 0) ans.toInt64 = 0
  rw [hf' rfl]
  exact lg_self _
def q_17 (Ls : Nat) (xs : Nat → Int32) : List (Nat × gO) := [(1016, oFR 0 (oALoad 1)), (1017, oALoad 0), (1018, oILoad 5), (1020, oConst (nI 1)), (1021, oAdd), (1022, oSld Ls xs 1999), (1023, oALoad 0), (1024, oILoad 5), (1026, oConst (nI 2)), (1027, oAdd), (1028, oSld Ls xs 1999), (1029, oALoad 3), (1030, oLS 601024 7293034 2 12 4 sL_line), (1033, oFR 0 (oIStore 9 6)), (1035, oALoad 2), (1036, oALoad 0), (1037, oILoad 5), (1039, oConst (nI 1)), (1040, oAdd), (1041, oSld Ls xs 1999), (1042, oALoad 0), (1043, oILoad 5), (1045, oConst (nI 2)), (1046, oAdd), (1047, oSld Ls xs 1999), (1048, oLM 601024 7293034 2 sX7_line), (1051, oFR 0 (oIStore 9 7)), (1053, oALoad 2), (1054, oLM 601024 7293034 0 s7_thrown), (1057, oFR 0 (oILoad 6)), (1059, oICmp_eq 1064), (1062, oConst (nI 0)), (1063, oLEnd), (1064, oILoad 6), (1066, oIf_ne 1081), (1069, oALoad 3), (1070, oConst (nI 0)), (1071, oGetL), (1072, oILoad 7), (1074, oI2L), (1075, oLCmp), (1076, oIf_eq 1081), (1079, oConst (nI 0)), (1080, oLEnd), (1081, oGoto 1786)]
set_option maxRecDepth 100000 in
theorem kq_17 {X : gX} {l : Launch} {b Ls : Nat} {xs : Nat → Int32} (h : lawX X l b Ls xs) : okL X (q_17 Ls xs) := by
  obtain ⟨hM, hSc, hLE, hC9, hl, hnL⟩ := h
  obtain ⟨p, l1, e, R, s, m, args, below, meth, c, D, cA, A, ag, ad0, Q, nL⟩ := X
  cases hnL
  refine ⟨ok_FR (ok_aload_n hM 1 dL_law_1016 rfl),
    ok_aload_n hM 0 dL_law_1017 rfl,
    ok_iload hM 5 dL_law_1018,
    ok_iconst hM dL_law_1020 rfl,
    ok_iadd hM dL_law_1021,
    ok_sld hM hSc dL_law_1022,
    ok_aload_n hM 0 dL_law_1023 rfl,
    ok_iload hM 5 dL_law_1024,
    ok_iconst hM dL_law_1026 rfl,
    ok_iadd hM dL_law_1027,
    ok_sld hM hSc dL_law_1028,
    ok_aload_n hM 3 dL_law_1029 rfl,
    ok_lS hM hC9 (ctL_line l hl) gL_law_L_line rfl rfl rfl (by decide +kernel) (by decide) dL_law_1030,
    ok_FR (ok_istore hM 6 dL_law_1033),
    ok_aload_n hM 2 dL_law_1035 rfl,
    ok_aload_n hM 0 dL_law_1036 rfl,
    ok_iload hM 5 dL_law_1037,
    ok_iconst hM dL_law_1039 rfl,
    ok_iadd hM dL_law_1040,
    ok_sld hM hSc dL_law_1041,
    ok_aload_n hM 0 dL_law_1042 rfl,
    ok_iload hM 5 dL_law_1043,
    ok_iconst hM dL_law_1045 rfl,
    ok_iadd hM dL_law_1046,
    ok_sld hM hSc dL_law_1047,
    ok_lM hM (ctX7_line l) gL_law_X7_line rfl rfl rfl (by decide +kernel) (by decide) dL_law_1048,
    ok_FR (ok_istore hM 7 dL_law_1051),
    ok_aload_n hM 2 dL_law_1053 rfl,
    ok_lM hM (c7_thrown l) gL_law_X7_thrown rfl rfl rfl (by decide +kernel) (by decide) dL_law_1054,
    ok_FR (ok_iload hM 6 dL_law_1057),
    ok_icmp_eq hM 1064 dL_law_1059 (by decide),
    ok_iconst hM dL_law_1062 rfl,
    ok_lend hLE dL_law_1063,
    ok_iload hM 6 dL_law_1064,
    ok_if_ne hM 1081 dL_law_1066 (by decide),
    ok_aload_n hM 3 dL_law_1069 rfl,
    ok_iconst hM dL_law_1070 rfl,
    ok_getL (ok_lald hM dL_law_1071),
    ok_iload hM 7 dL_law_1072,
    ok_i2l hM dL_law_1074,
    ok_lcmp hM dL_law_1075,
    ok_if_eq hM 1081 dL_law_1076 (by decide),
    ok_iconst hM dL_law_1079 rfl,
    ok_lend hLE dL_law_1080,
    ok_goto hM 1786 dL_law_1081 (by decide),
    trivial⟩
theorem case_17 {X : gX} {l : Launch} {b Ls : Nat} {xs : Nat → Int32} (h : lawX X l b Ls xs) {j : Nat} (hc : cutOK X [(1786, lwK, lwQ j)]) {vs : List Value} {es : List gE} {k n : Nat} (hp : lwP Ls j vs es k n) : G X 1016 (lwK.zip vs) [] es k n := by
  obtain ⟨c, wy, f, g, E, th, hj, hLs, hinv, hmw, rfl, rfl, hk, hn⟩ := hp
  obtain ⟨k9, ans, c', hr, hinv', hk9⟩ := e_line (xs (5 * j + 1)) (xs (5 * j + 2)) hinv
  refine wr_ok (kq_17 h) hc 9 1016 _ _ _ _ _ ?_
  refine ⟨5 * j + 1, nI_add _ _, by omega, ?_⟩
  refine ⟨5 * j + 2, nI_add _ _, by omega, ?_⟩
  refine ⟨⟨by omega, by omega⟩, c, wy, f, g, _, rfl, ?_⟩
  refine ⟨c, wy, f, g, _, _, k9, ans, c', rfl, hinv, hr, rfl, fun wy' f' hf' => ?_⟩
  refine ⟨c', wy', f', g, rfl, ?_⟩
  refine ⟨5 * j + 1, nI_add _ _, by omega, ?_⟩
  refine ⟨5 * j + 2, nI_add _ _, by omega, ?_⟩
  refine ⟨⟨by omega, by omega⟩, c', wy', f', g, E, rfl, ⟨c, th, hmw⟩, ?_⟩
  refine ⟨c, th, _, _, k9, ans, c', rfl, hinv, hmw, hr, fun E' hE' => ?_⟩
  refine ⟨⟨c', _, hE'⟩, rfl, ?_⟩
  refine ⟨⟨by omega, by omega⟩, c', wy', f', g, E', rfl, ⟨c', _, hE'⟩, ?_⟩
  refine ⟨c', _, rfl, hE', ?_⟩
  refine ⟨⟨c', _, hE'⟩, rfl, ?_⟩
  refine ⟨fun _ => ?_, fun z => absurd rfl z⟩
  refine ⟨fun _ => ⟨c', wy', f', g, E', _, hinv', hE', rfl, rfl, by omega, by omega⟩, fun z0 => ?_⟩
  obtain rfl := nI_z z0 hk9
  refine ⟨rfl, c', wy', f', g, _, rfl, ?_⟩
  refine ⟨fun _ => ⟨c', wy', f', g, E', _, hinv', hE', rfl, rfl, by omega, by omega⟩, fun z1 => absurd ?_ z1⟩
  show lg_cmp (f' 0) ans.toInt64 = 0
  rw [hf' rfl]
  exact lg_self _
def q_18 (Ls : Nat) (xs : Nat → Int32) : List (Nat × gO) := [(1084, oFR 0 (oALoad 1)), (1085, oALoad 0), (1086, oILoad 5), (1088, oConst (nI 1)), (1089, oAdd), (1090, oSld Ls xs 1999), (1091, oALoad 0), (1092, oILoad 5), (1094, oConst (nI 2)), (1095, oAdd), (1096, oSld Ls xs 1999), (1097, oIf_eq 1104), (1100, oConst (nI 1)), (1101, oGoto 1105), (1104, oConst (nI 0)), (1105, oALoad 3), (1106, oLS 601024 7293034 1 6 4 sL_lines), (1109, oFR 0 (oIStore 9 6)), (1111, oALoad 2), (1112, oALoad 0), (1113, oILoad 5), (1115, oConst (nI 1)), (1116, oAdd), (1117, oSld Ls xs 1999), (1118, oALoad 0), (1119, oILoad 5), (1121, oConst (nI 2)), (1122, oAdd), (1123, oSld Ls xs 1999), (1124, oIf_eq 1131), (1127, oConst (nI 1)), (1128, oGoto 1132), (1131, oConst (nI 0)), (1132, oLM 601024 7293034 2 sX7_lines), (1135, oFR 0 (oIStore 9 7)), (1137, oALoad 2), (1138, oLM 601024 7293034 0 s7_thrown), (1141, oFR 0 (oILoad 6)), (1143, oICmp_eq 1148), (1146, oConst (nI 0)), (1147, oLEnd), (1148, oILoad 6), (1150, oIf_ne 1165), (1153, oALoad 3), (1154, oConst (nI 0)), (1155, oGetL), (1156, oILoad 7), (1158, oI2L), (1159, oLCmp), (1160, oIf_eq 1165), (1163, oConst (nI 0)), (1164, oLEnd), (1165, oGoto 1786)]
set_option maxRecDepth 100000 in
theorem kq_18 {X : gX} {l : Launch} {b Ls : Nat} {xs : Nat → Int32} (h : lawX X l b Ls xs) : okL X (q_18 Ls xs) := by
  obtain ⟨hM, hSc, hLE, hC9, hl, hnL⟩ := h
  obtain ⟨p, l1, e, R, s, m, args, below, meth, c, D, cA, A, ag, ad0, Q, nL⟩ := X
  cases hnL
  refine ⟨ok_FR (ok_aload_n hM 1 dL_law_1084 rfl),
    ok_aload_n hM 0 dL_law_1085 rfl,
    ok_iload hM 5 dL_law_1086,
    ok_iconst hM dL_law_1088 rfl,
    ok_iadd hM dL_law_1089,
    ok_sld hM hSc dL_law_1090,
    ok_aload_n hM 0 dL_law_1091 rfl,
    ok_iload hM 5 dL_law_1092,
    ok_iconst hM dL_law_1094 rfl,
    ok_iadd hM dL_law_1095,
    ok_sld hM hSc dL_law_1096,
    ok_if_eq hM 1104 dL_law_1097 (by decide),
    ok_iconst hM dL_law_1100 rfl,
    ok_goto hM 1105 dL_law_1101 (by decide),
    ok_iconst hM dL_law_1104 rfl,
    ok_aload_n hM 3 dL_law_1105 rfl,
    ok_lS hM hC9 (ctL_lines l hl) gL_law_L_lines rfl rfl rfl (by decide +kernel) (by decide) dL_law_1106,
    ok_FR (ok_istore hM 6 dL_law_1109),
    ok_aload_n hM 2 dL_law_1111 rfl,
    ok_aload_n hM 0 dL_law_1112 rfl,
    ok_iload hM 5 dL_law_1113,
    ok_iconst hM dL_law_1115 rfl,
    ok_iadd hM dL_law_1116,
    ok_sld hM hSc dL_law_1117,
    ok_aload_n hM 0 dL_law_1118 rfl,
    ok_iload hM 5 dL_law_1119,
    ok_iconst hM dL_law_1121 rfl,
    ok_iadd hM dL_law_1122,
    ok_sld hM hSc dL_law_1123,
    ok_if_eq hM 1131 dL_law_1124 (by decide),
    ok_iconst hM dL_law_1127 rfl,
    ok_goto hM 1132 dL_law_1128 (by decide),
    ok_iconst hM dL_law_1131 rfl,
    ok_lM hM (ctX7_lines l) gL_law_X7_lines rfl rfl rfl (by decide +kernel) (by decide) dL_law_1132,
    ok_FR (ok_istore hM 7 dL_law_1135),
    ok_aload_n hM 2 dL_law_1137 rfl,
    ok_lM hM (c7_thrown l) gL_law_X7_thrown rfl rfl rfl (by decide +kernel) (by decide) dL_law_1138,
    ok_FR (ok_iload hM 6 dL_law_1141),
    ok_icmp_eq hM 1148 dL_law_1143 (by decide),
    ok_iconst hM dL_law_1146 rfl,
    ok_lend hLE dL_law_1147,
    ok_iload hM 6 dL_law_1148,
    ok_if_ne hM 1165 dL_law_1150 (by decide),
    ok_aload_n hM 3 dL_law_1153 rfl,
    ok_iconst hM dL_law_1154 rfl,
    ok_getL (ok_lald hM dL_law_1155),
    ok_iload hM 7 dL_law_1156,
    ok_i2l hM dL_law_1158,
    ok_lcmp hM dL_law_1159,
    ok_if_eq hM 1165 dL_law_1160 (by decide),
    ok_iconst hM dL_law_1163 rfl,
    ok_lend hLE dL_law_1164,
    ok_goto hM 1786 dL_law_1165 (by decide),
    trivial⟩
theorem case_18 {X : gX} {l : Launch} {b Ls : Nat} {xs : Nat → Int32} (h : lawX X l b Ls xs) {j : Nat} (hc : cutOK X [(1786, lwK, lwQ j)]) {vs : List Value} {es : List gE} {k n : Nat} (hp : lwP Ls j vs es k n) : G X 1084 (lwK.zip vs) [] es k n := by
  obtain ⟨c, wy, f, g, E, th, hj, hLs, hinv, hmw, rfl, rfl, hk, hn⟩ := hp
  by_cases hz : xs (5 * j + 2) = 0
  · obtain ⟨k9, ans, c', hr, hinv', hk9⟩ := e_lines (xs (5 * j + 1)) (nI 0) hinv
    refine wr_ok (kq_18 h) hc 9 1084 _ _ _ _ _ ?_
    refine ⟨5 * j + 1, nI_add _ _, by omega, ?_⟩
    refine ⟨5 * j + 2, nI_add _ _, by omega, ?_⟩
    refine ⟨fun _ => ?_, fun z => absurd hz z⟩
    refine ⟨⟨by omega, by omega⟩, c, wy, f, g, _, rfl, ?_⟩
    refine ⟨c, wy, f, g, _, _, k9, ans, c', rfl, hinv, hr, rfl, fun wy' f' hf' => ?_⟩
    refine ⟨c', wy', f', g, rfl, ?_⟩
    refine ⟨5 * j + 1, nI_add _ _, by omega, ?_⟩
    refine ⟨5 * j + 2, nI_add _ _, by omega, ?_⟩
    refine ⟨fun _ => ?_, fun z => absurd hz z⟩
    refine ⟨⟨by omega, by omega⟩, c', wy', f', g, E, rfl, ⟨c, th, hmw⟩, ?_⟩
    refine ⟨c, th, _, _, k9, ans, c', rfl, hinv, hmw, hr, fun E' hE' => ?_⟩
    refine ⟨⟨c', _, hE'⟩, rfl, ?_⟩
    refine ⟨⟨by omega, by omega⟩, c', wy', f', g, E', rfl, ⟨c', _, hE'⟩, ?_⟩
    refine ⟨c', _, rfl, hE', ?_⟩
    refine ⟨⟨c', _, hE'⟩, rfl, ?_⟩
    refine ⟨fun _ => ?_, fun z => absurd rfl z⟩
    refine ⟨fun _ => ⟨c', wy', f', g, E', _, hinv', hE', rfl, rfl, by omega, by omega⟩, fun z0 => ?_⟩
    obtain rfl := nI_z z0 hk9
    refine ⟨rfl, c', wy', f', g, _, rfl, ?_⟩
    refine ⟨fun _ => ⟨c', wy', f', g, E', _, hinv', hE', rfl, rfl, by omega, by omega⟩, fun z1 => absurd ?_ z1⟩
    show lg_cmp (f' 0) ans.toInt64 = 0
    rw [hf' rfl]
    exact lg_self _
  · obtain ⟨k9, ans, c', hr, hinv', hk9⟩ := e_lines (xs (5 * j + 1)) (nI 1) hinv
    refine wr_ok (kq_18 h) hc 9 1084 _ _ _ _ _ ?_
    refine ⟨5 * j + 1, nI_add _ _, by omega, ?_⟩
    refine ⟨5 * j + 2, nI_add _ _, by omega, ?_⟩
    refine ⟨fun z => absurd z hz, fun _ => ?_⟩
    refine ⟨⟨by omega, by omega⟩, c, wy, f, g, _, rfl, ?_⟩
    refine ⟨c, wy, f, g, _, _, k9, ans, c', rfl, hinv, hr, rfl, fun wy' f' hf' => ?_⟩
    refine ⟨c', wy', f', g, rfl, ?_⟩
    refine ⟨5 * j + 1, nI_add _ _, by omega, ?_⟩
    refine ⟨5 * j + 2, nI_add _ _, by omega, ?_⟩
    refine ⟨fun z => absurd z hz, fun _ => ?_⟩
    refine ⟨⟨by omega, by omega⟩, c', wy', f', g, E, rfl, ⟨c, th, hmw⟩, ?_⟩
    refine ⟨c, th, _, _, k9, ans, c', rfl, hinv, hmw, hr, fun E' hE' => ?_⟩
    refine ⟨⟨c', _, hE'⟩, rfl, ?_⟩
    refine ⟨⟨by omega, by omega⟩, c', wy', f', g, E', rfl, ⟨c', _, hE'⟩, ?_⟩
    refine ⟨c', _, rfl, hE', ?_⟩
    refine ⟨⟨c', _, hE'⟩, rfl, ?_⟩
    refine ⟨fun _ => ?_, fun z => absurd rfl z⟩
    refine ⟨fun _ => ⟨c', wy', f', g, E', _, hinv', hE', rfl, rfl, by omega, by omega⟩, fun z0 => ?_⟩
    obtain rfl := nI_z z0 hk9
    refine ⟨rfl, c', wy', f', g, _, rfl, ?_⟩
    refine ⟨fun _ => ⟨c', wy', f', g, E', _, hinv', hE', rfl, rfl, by omega, by omega⟩, fun z1 => absurd ?_ z1⟩
    show lg_cmp (f' 0) ans.toInt64 = 0
    rw [hf' rfl]
    exact lg_self _
def q_19 (Ls : Nat) (xs : Nat → Int32) : List (Nat × gO) := [(1168, oFR 0 (oALoad 1)), (1169, oALoad 0), (1170, oILoad 5), (1172, oConst (nI 1)), (1173, oAdd), (1174, oSld Ls xs 1999), (1175, oALoad 0), (1176, oILoad 5), (1178, oConst (nI 2)), (1179, oAdd), (1180, oSld Ls xs 1999), (1181, oALoad 3), (1182, oLS 601024 7293034 2 12 4 sL_ifAccessed), (1185, oFR 0 (oIStore 9 6)), (1187, oALoad 2), (1188, oALoad 0), (1189, oILoad 5), (1191, oConst (nI 1)), (1192, oAdd), (1193, oSld Ls xs 1999), (1194, oALoad 0), (1195, oILoad 5), (1197, oConst (nI 2)), (1198, oAdd), (1199, oSld Ls xs 1999), (1200, oLM 601024 7293034 2 sX7_ifAccessed), (1203, oFR 0 (oIStore 9 7)), (1205, oALoad 2), (1206, oLM 601024 7293034 0 s7_thrown), (1209, oFR 0 (oILoad 6)), (1211, oICmp_eq 1216), (1214, oConst (nI 0)), (1215, oLEnd), (1216, oILoad 6), (1218, oIf_ne 1233), (1221, oALoad 3), (1222, oConst (nI 0)), (1223, oGetL), (1224, oILoad 7), (1226, oI2L), (1227, oLCmp), (1228, oIf_eq 1233), (1231, oConst (nI 0)), (1232, oLEnd), (1233, oGoto 1786)]
set_option maxRecDepth 100000 in
theorem kq_19 {X : gX} {l : Launch} {b Ls : Nat} {xs : Nat → Int32} (h : lawX X l b Ls xs) : okL X (q_19 Ls xs) := by
  obtain ⟨hM, hSc, hLE, hC9, hl, hnL⟩ := h
  obtain ⟨p, l1, e, R, s, m, args, below, meth, c, D, cA, A, ag, ad0, Q, nL⟩ := X
  cases hnL
  refine ⟨ok_FR (ok_aload_n hM 1 dL_law_1168 rfl),
    ok_aload_n hM 0 dL_law_1169 rfl,
    ok_iload hM 5 dL_law_1170,
    ok_iconst hM dL_law_1172 rfl,
    ok_iadd hM dL_law_1173,
    ok_sld hM hSc dL_law_1174,
    ok_aload_n hM 0 dL_law_1175 rfl,
    ok_iload hM 5 dL_law_1176,
    ok_iconst hM dL_law_1178 rfl,
    ok_iadd hM dL_law_1179,
    ok_sld hM hSc dL_law_1180,
    ok_aload_n hM 3 dL_law_1181 rfl,
    ok_lS hM hC9 (ctL_ifAccessed l hl) gL_law_L_ifAccessed rfl rfl rfl (by decide +kernel) (by decide) dL_law_1182,
    ok_FR (ok_istore hM 6 dL_law_1185),
    ok_aload_n hM 2 dL_law_1187 rfl,
    ok_aload_n hM 0 dL_law_1188 rfl,
    ok_iload hM 5 dL_law_1189,
    ok_iconst hM dL_law_1191 rfl,
    ok_iadd hM dL_law_1192,
    ok_sld hM hSc dL_law_1193,
    ok_aload_n hM 0 dL_law_1194 rfl,
    ok_iload hM 5 dL_law_1195,
    ok_iconst hM dL_law_1197 rfl,
    ok_iadd hM dL_law_1198,
    ok_sld hM hSc dL_law_1199,
    ok_lM hM (ctX7_ifAccessed l) gL_law_X7_ifAccessed rfl rfl rfl (by decide +kernel) (by decide) dL_law_1200,
    ok_FR (ok_istore hM 7 dL_law_1203),
    ok_aload_n hM 2 dL_law_1205 rfl,
    ok_lM hM (c7_thrown l) gL_law_X7_thrown rfl rfl rfl (by decide +kernel) (by decide) dL_law_1206,
    ok_FR (ok_iload hM 6 dL_law_1209),
    ok_icmp_eq hM 1216 dL_law_1211 (by decide),
    ok_iconst hM dL_law_1214 rfl,
    ok_lend hLE dL_law_1215,
    ok_iload hM 6 dL_law_1216,
    ok_if_ne hM 1233 dL_law_1218 (by decide),
    ok_aload_n hM 3 dL_law_1221 rfl,
    ok_iconst hM dL_law_1222 rfl,
    ok_getL (ok_lald hM dL_law_1223),
    ok_iload hM 7 dL_law_1224,
    ok_i2l hM dL_law_1226,
    ok_lcmp hM dL_law_1227,
    ok_if_eq hM 1233 dL_law_1228 (by decide),
    ok_iconst hM dL_law_1231 rfl,
    ok_lend hLE dL_law_1232,
    ok_goto hM 1786 dL_law_1233 (by decide),
    trivial⟩
theorem case_19 {X : gX} {l : Launch} {b Ls : Nat} {xs : Nat → Int32} (h : lawX X l b Ls xs) {j : Nat} (hc : cutOK X [(1786, lwK, lwQ j)]) {vs : List Value} {es : List gE} {k n : Nat} (hp : lwP Ls j vs es k n) : G X 1168 (lwK.zip vs) [] es k n := by
  obtain ⟨c, wy, f, g, E, th, hj, hLs, hinv, hmw, rfl, rfl, hk, hn⟩ := hp
  obtain ⟨k9, ans, c', hr, hinv', hk9⟩ := e_ifAccessed (xs (5 * j + 1)) (xs (5 * j + 2)) hinv
  refine wr_ok (kq_19 h) hc 9 1168 _ _ _ _ _ ?_
  refine ⟨5 * j + 1, nI_add _ _, by omega, ?_⟩
  refine ⟨5 * j + 2, nI_add _ _, by omega, ?_⟩
  refine ⟨⟨by omega, by omega⟩, c, wy, f, g, _, rfl, ?_⟩
  refine ⟨c, wy, f, g, _, _, k9, ans, c', rfl, hinv, hr, rfl, fun wy' f' hf' => ?_⟩
  refine ⟨c', wy', f', g, rfl, ?_⟩
  refine ⟨5 * j + 1, nI_add _ _, by omega, ?_⟩
  refine ⟨5 * j + 2, nI_add _ _, by omega, ?_⟩
  refine ⟨⟨by omega, by omega⟩, c', wy', f', g, E, rfl, ⟨c, th, hmw⟩, ?_⟩
  refine ⟨c, th, _, _, k9, ans, c', rfl, hinv, hmw, hr, fun E' hE' => ?_⟩
  refine ⟨⟨c', _, hE'⟩, rfl, ?_⟩
  refine ⟨⟨by omega, by omega⟩, c', wy', f', g, E', rfl, ⟨c', _, hE'⟩, ?_⟩
  refine ⟨c', _, rfl, hE', ?_⟩
  refine ⟨⟨c', _, hE'⟩, rfl, ?_⟩
  refine ⟨fun _ => ?_, fun z => absurd rfl z⟩
  refine ⟨fun _ => ⟨c', wy', f', g, E', _, hinv', hE', rfl, rfl, by omega, by omega⟩, fun z0 => ?_⟩
  obtain rfl := nI_z z0 hk9
  refine ⟨rfl, c', wy', f', g, _, rfl, ?_⟩
  refine ⟨fun _ => ⟨c', wy', f', g, E', _, hinv', hE', rfl, rfl, by omega, by omega⟩, fun z1 => absurd ?_ z1⟩
  show lg_cmp (f' 0) ans.toInt64 = 0
  rw [hf' rfl]
  exact lg_self _
def q_20 (Ls : Nat) (xs : Nat → Int32) : List (Nat × gO) := [(1236, oFR 0 (oALoad 1)), (1237, oALoad 0), (1238, oILoad 5), (1240, oConst (nI 1)), (1241, oAdd), (1242, oSld Ls xs 1999), (1243, oALoad 0), (1244, oILoad 5), (1246, oConst (nI 2)), (1247, oAdd), (1248, oSld Ls xs 1999), (1249, oALoad 3), (1250, oLS 601024 7293034 2 12 4 sL_victim), (1253, oFR 0 (oIStore 9 6)), (1255, oALoad 2), (1256, oALoad 0), (1257, oILoad 5), (1259, oConst (nI 1)), (1260, oAdd), (1261, oSld Ls xs 1999), (1262, oALoad 0), (1263, oILoad 5), (1265, oConst (nI 2)), (1266, oAdd), (1267, oSld Ls xs 1999), (1268, oLM 601024 7293034 2 sX7_victim), (1271, oFR 0 (oIStore 9 7)), (1273, oALoad 2), (1274, oLM 601024 7293034 0 s7_thrown), (1277, oFR 0 (oILoad 6)), (1279, oICmp_eq 1284), (1282, oConst (nI 0)), (1283, oLEnd), (1284, oILoad 6), (1286, oIf_ne 1301), (1289, oALoad 3), (1290, oConst (nI 0)), (1291, oGetL), (1292, oILoad 7), (1294, oI2L), (1295, oLCmp), (1296, oIf_eq 1301), (1299, oConst (nI 0)), (1300, oLEnd), (1301, oGoto 1786)]
set_option maxRecDepth 100000 in
theorem kq_20 {X : gX} {l : Launch} {b Ls : Nat} {xs : Nat → Int32} (h : lawX X l b Ls xs) : okL X (q_20 Ls xs) := by
  obtain ⟨hM, hSc, hLE, hC9, hl, hnL⟩ := h
  obtain ⟨p, l1, e, R, s, m, args, below, meth, c, D, cA, A, ag, ad0, Q, nL⟩ := X
  cases hnL
  refine ⟨ok_FR (ok_aload_n hM 1 dL_law_1236 rfl),
    ok_aload_n hM 0 dL_law_1237 rfl,
    ok_iload hM 5 dL_law_1238,
    ok_iconst hM dL_law_1240 rfl,
    ok_iadd hM dL_law_1241,
    ok_sld hM hSc dL_law_1242,
    ok_aload_n hM 0 dL_law_1243 rfl,
    ok_iload hM 5 dL_law_1244,
    ok_iconst hM dL_law_1246 rfl,
    ok_iadd hM dL_law_1247,
    ok_sld hM hSc dL_law_1248,
    ok_aload_n hM 3 dL_law_1249 rfl,
    ok_lS hM hC9 (ctL_victim l hl) gL_law_L_victim rfl rfl rfl (by decide +kernel) (by decide) dL_law_1250,
    ok_FR (ok_istore hM 6 dL_law_1253),
    ok_aload_n hM 2 dL_law_1255 rfl,
    ok_aload_n hM 0 dL_law_1256 rfl,
    ok_iload hM 5 dL_law_1257,
    ok_iconst hM dL_law_1259 rfl,
    ok_iadd hM dL_law_1260,
    ok_sld hM hSc dL_law_1261,
    ok_aload_n hM 0 dL_law_1262 rfl,
    ok_iload hM 5 dL_law_1263,
    ok_iconst hM dL_law_1265 rfl,
    ok_iadd hM dL_law_1266,
    ok_sld hM hSc dL_law_1267,
    ok_lM hM (ctX7_victim l) gL_law_X7_victim rfl rfl rfl (by decide +kernel) (by decide) dL_law_1268,
    ok_FR (ok_istore hM 7 dL_law_1271),
    ok_aload_n hM 2 dL_law_1273 rfl,
    ok_lM hM (c7_thrown l) gL_law_X7_thrown rfl rfl rfl (by decide +kernel) (by decide) dL_law_1274,
    ok_FR (ok_iload hM 6 dL_law_1277),
    ok_icmp_eq hM 1284 dL_law_1279 (by decide),
    ok_iconst hM dL_law_1282 rfl,
    ok_lend hLE dL_law_1283,
    ok_iload hM 6 dL_law_1284,
    ok_if_ne hM 1301 dL_law_1286 (by decide),
    ok_aload_n hM 3 dL_law_1289 rfl,
    ok_iconst hM dL_law_1290 rfl,
    ok_getL (ok_lald hM dL_law_1291),
    ok_iload hM 7 dL_law_1292,
    ok_i2l hM dL_law_1294,
    ok_lcmp hM dL_law_1295,
    ok_if_eq hM 1301 dL_law_1296 (by decide),
    ok_iconst hM dL_law_1299 rfl,
    ok_lend hLE dL_law_1300,
    ok_goto hM 1786 dL_law_1301 (by decide),
    trivial⟩
theorem case_20 {X : gX} {l : Launch} {b Ls : Nat} {xs : Nat → Int32} (h : lawX X l b Ls xs) {j : Nat} (hc : cutOK X [(1786, lwK, lwQ j)]) {vs : List Value} {es : List gE} {k n : Nat} (hp : lwP Ls j vs es k n) : G X 1236 (lwK.zip vs) [] es k n := by
  obtain ⟨c, wy, f, g, E, th, hj, hLs, hinv, hmw, rfl, rfl, hk, hn⟩ := hp
  obtain ⟨k9, ans, c', hr, hinv', hk9⟩ := e_victim (xs (5 * j + 1)) (xs (5 * j + 2)) hinv
  refine wr_ok (kq_20 h) hc 9 1236 _ _ _ _ _ ?_
  refine ⟨5 * j + 1, nI_add _ _, by omega, ?_⟩
  refine ⟨5 * j + 2, nI_add _ _, by omega, ?_⟩
  refine ⟨⟨by omega, by omega⟩, c, wy, f, g, _, rfl, ?_⟩
  refine ⟨c, wy, f, g, _, _, k9, ans, c', rfl, hinv, hr, rfl, fun wy' f' hf' => ?_⟩
  refine ⟨c', wy', f', g, rfl, ?_⟩
  refine ⟨5 * j + 1, nI_add _ _, by omega, ?_⟩
  refine ⟨5 * j + 2, nI_add _ _, by omega, ?_⟩
  refine ⟨⟨by omega, by omega⟩, c', wy', f', g, E, rfl, ⟨c, th, hmw⟩, ?_⟩
  refine ⟨c, th, _, _, k9, ans, c', rfl, hinv, hmw, hr, fun E' hE' => ?_⟩
  refine ⟨⟨c', _, hE'⟩, rfl, ?_⟩
  refine ⟨⟨by omega, by omega⟩, c', wy', f', g, E', rfl, ⟨c', _, hE'⟩, ?_⟩
  refine ⟨c', _, rfl, hE', ?_⟩
  refine ⟨⟨c', _, hE'⟩, rfl, ?_⟩
  refine ⟨fun _ => ?_, fun z => absurd rfl z⟩
  refine ⟨fun _ => ⟨c', wy', f', g, E', _, hinv', hE', rfl, rfl, by omega, by omega⟩, fun z0 => ?_⟩
  obtain rfl := nI_z z0 hk9
  refine ⟨rfl, c', wy', f', g, _, rfl, ?_⟩
  refine ⟨fun _ => ⟨c', wy', f', g, E', _, hinv', hE', rfl, rfl, by omega, by omega⟩, fun z1 => absurd ?_ z1⟩
  show lg_cmp (f' 0) ans.toInt64 = 0
  rw [hf' rfl]
  exact lg_self _
def q_21 (Ls : Nat) (xs : Nat → Int32) : List (Nat × gO) := [(1304, oFR 0 (oALoad 1)), (1305, oALoad 0), (1306, oILoad 5), (1308, oConst (nI 1)), (1309, oAdd), (1310, oSld Ls xs 1999), (1311, oALoad 0), (1312, oILoad 5), (1314, oConst (nI 2)), (1315, oAdd), (1316, oSld Ls xs 1999), (1317, oALoad 3), (1318, oLS 601024 7293034 2 12 4 sL_gain), (1321, oFR 0 (oIStore 9 6)), (1323, oALoad 2), (1324, oALoad 0), (1325, oILoad 5), (1327, oConst (nI 1)), (1328, oAdd), (1329, oSld Ls xs 1999), (1330, oALoad 0), (1331, oILoad 5), (1333, oConst (nI 2)), (1334, oAdd), (1335, oSld Ls xs 1999), (1336, oLM 601024 7293034 2 sX7_gain), (1339, oFR 0 (oIStore 9 7)), (1341, oALoad 2), (1342, oLM 601024 7293034 0 s7_thrown), (1345, oFR 0 (oILoad 6)), (1347, oICmp_eq 1352), (1350, oConst (nI 0)), (1351, oLEnd), (1352, oILoad 6), (1354, oIf_ne 1369), (1357, oALoad 3), (1358, oConst (nI 0)), (1359, oGetL), (1360, oILoad 7), (1362, oI2L), (1363, oLCmp), (1364, oIf_eq 1369), (1367, oConst (nI 0)), (1368, oLEnd), (1369, oGoto 1786)]
set_option maxRecDepth 100000 in
theorem kq_21 {X : gX} {l : Launch} {b Ls : Nat} {xs : Nat → Int32} (h : lawX X l b Ls xs) : okL X (q_21 Ls xs) := by
  obtain ⟨hM, hSc, hLE, hC9, hl, hnL⟩ := h
  obtain ⟨p, l1, e, R, s, m, args, below, meth, c, D, cA, A, ag, ad0, Q, nL⟩ := X
  cases hnL
  refine ⟨ok_FR (ok_aload_n hM 1 dL_law_1304 rfl),
    ok_aload_n hM 0 dL_law_1305 rfl,
    ok_iload hM 5 dL_law_1306,
    ok_iconst hM dL_law_1308 rfl,
    ok_iadd hM dL_law_1309,
    ok_sld hM hSc dL_law_1310,
    ok_aload_n hM 0 dL_law_1311 rfl,
    ok_iload hM 5 dL_law_1312,
    ok_iconst hM dL_law_1314 rfl,
    ok_iadd hM dL_law_1315,
    ok_sld hM hSc dL_law_1316,
    ok_aload_n hM 3 dL_law_1317 rfl,
    ok_lS hM hC9 (ctL_gain l hl) gL_law_L_gain rfl rfl rfl (by decide +kernel) (by decide) dL_law_1318,
    ok_FR (ok_istore hM 6 dL_law_1321),
    ok_aload_n hM 2 dL_law_1323 rfl,
    ok_aload_n hM 0 dL_law_1324 rfl,
    ok_iload hM 5 dL_law_1325,
    ok_iconst hM dL_law_1327 rfl,
    ok_iadd hM dL_law_1328,
    ok_sld hM hSc dL_law_1329,
    ok_aload_n hM 0 dL_law_1330 rfl,
    ok_iload hM 5 dL_law_1331,
    ok_iconst hM dL_law_1333 rfl,
    ok_iadd hM dL_law_1334,
    ok_sld hM hSc dL_law_1335,
    ok_lM hM (ctX7_gain l) gL_law_X7_gain rfl rfl rfl (by decide +kernel) (by decide) dL_law_1336,
    ok_FR (ok_istore hM 7 dL_law_1339),
    ok_aload_n hM 2 dL_law_1341 rfl,
    ok_lM hM (c7_thrown l) gL_law_X7_thrown rfl rfl rfl (by decide +kernel) (by decide) dL_law_1342,
    ok_FR (ok_iload hM 6 dL_law_1345),
    ok_icmp_eq hM 1352 dL_law_1347 (by decide),
    ok_iconst hM dL_law_1350 rfl,
    ok_lend hLE dL_law_1351,
    ok_iload hM 6 dL_law_1352,
    ok_if_ne hM 1369 dL_law_1354 (by decide),
    ok_aload_n hM 3 dL_law_1357 rfl,
    ok_iconst hM dL_law_1358 rfl,
    ok_getL (ok_lald hM dL_law_1359),
    ok_iload hM 7 dL_law_1360,
    ok_i2l hM dL_law_1362,
    ok_lcmp hM dL_law_1363,
    ok_if_eq hM 1369 dL_law_1364 (by decide),
    ok_iconst hM dL_law_1367 rfl,
    ok_lend hLE dL_law_1368,
    ok_goto hM 1786 dL_law_1369 (by decide),
    trivial⟩
theorem case_21 {X : gX} {l : Launch} {b Ls : Nat} {xs : Nat → Int32} (h : lawX X l b Ls xs) {j : Nat} (hc : cutOK X [(1786, lwK, lwQ j)]) {vs : List Value} {es : List gE} {k n : Nat} (hp : lwP Ls j vs es k n) : G X 1304 (lwK.zip vs) [] es k n := by
  obtain ⟨c, wy, f, g, E, th, hj, hLs, hinv, hmw, rfl, rfl, hk, hn⟩ := hp
  obtain ⟨k9, ans, c', hr, hinv', hk9⟩ := e_gain (xs (5 * j + 1)) (xs (5 * j + 2)) hinv
  refine wr_ok (kq_21 h) hc 9 1304 _ _ _ _ _ ?_
  refine ⟨5 * j + 1, nI_add _ _, by omega, ?_⟩
  refine ⟨5 * j + 2, nI_add _ _, by omega, ?_⟩
  refine ⟨⟨by omega, by omega⟩, c, wy, f, g, _, rfl, ?_⟩
  refine ⟨c, wy, f, g, _, _, k9, ans, c', rfl, hinv, hr, rfl, fun wy' f' hf' => ?_⟩
  refine ⟨c', wy', f', g, rfl, ?_⟩
  refine ⟨5 * j + 1, nI_add _ _, by omega, ?_⟩
  refine ⟨5 * j + 2, nI_add _ _, by omega, ?_⟩
  refine ⟨⟨by omega, by omega⟩, c', wy', f', g, E, rfl, ⟨c, th, hmw⟩, ?_⟩
  refine ⟨c, th, _, _, k9, ans, c', rfl, hinv, hmw, hr, fun E' hE' => ?_⟩
  refine ⟨⟨c', _, hE'⟩, rfl, ?_⟩
  refine ⟨⟨by omega, by omega⟩, c', wy', f', g, E', rfl, ⟨c', _, hE'⟩, ?_⟩
  refine ⟨c', _, rfl, hE', ?_⟩
  refine ⟨⟨c', _, hE'⟩, rfl, ?_⟩
  refine ⟨fun _ => ?_, fun z => absurd rfl z⟩
  refine ⟨fun _ => ⟨c', wy', f', g, E', _, hinv', hE', rfl, rfl, by omega, by omega⟩, fun z0 => ?_⟩
  obtain rfl := nI_z z0 hk9
  refine ⟨rfl, c', wy', f', g, _, rfl, ?_⟩
  refine ⟨fun _ => ⟨c', wy', f', g, E', _, hinv', hE', rfl, rfl, by omega, by omega⟩, fun z1 => absurd ?_ z1⟩
  show lg_cmp (f' 0) ans.toInt64 = 0
  rw [hf' rfl]
  exact lg_self _
def q_22 (Ls : Nat) (xs : Nat → Int32) : List (Nat × gO) := [(1372, oFR 0 (oALoad 1)), (1373, oALoad 0), (1374, oILoad 5), (1376, oConst (nI 1)), (1377, oAdd), (1378, oSld Ls xs 1999), (1379, oALoad 0), (1380, oILoad 5), (1382, oConst (nI 2)), (1383, oAdd), (1384, oSld Ls xs 1999), (1385, oALoad 3), (1386, oLS 601024 7293034 2 12 4 sL_utility), (1389, oFR 0 (oIStore 9 6)), (1391, oALoad 2), (1392, oALoad 0), (1393, oILoad 5), (1395, oConst (nI 1)), (1396, oAdd), (1397, oSld Ls xs 1999), (1398, oALoad 0), (1399, oILoad 5), (1401, oConst (nI 2)), (1402, oAdd), (1403, oSld Ls xs 1999), (1404, oLM 601024 7293034 2 sX7_utility), (1407, oFR 0 (oIStore 9 7)), (1409, oALoad 2), (1410, oLM 601024 7293034 0 s7_thrown), (1413, oFR 0 (oILoad 6)), (1415, oICmp_eq 1420), (1418, oConst (nI 0)), (1419, oLEnd), (1420, oILoad 6), (1422, oIf_ne 1437), (1425, oALoad 3), (1426, oConst (nI 0)), (1427, oGetL), (1428, oILoad 7), (1430, oI2L), (1431, oLCmp), (1432, oIf_eq 1437), (1435, oConst (nI 0)), (1436, oLEnd), (1437, oGoto 1786)]
set_option maxRecDepth 100000 in
theorem kq_22 {X : gX} {l : Launch} {b Ls : Nat} {xs : Nat → Int32} (h : lawX X l b Ls xs) : okL X (q_22 Ls xs) := by
  obtain ⟨hM, hSc, hLE, hC9, hl, hnL⟩ := h
  obtain ⟨p, l1, e, R, s, m, args, below, meth, c, D, cA, A, ag, ad0, Q, nL⟩ := X
  cases hnL
  refine ⟨ok_FR (ok_aload_n hM 1 dL_law_1372 rfl),
    ok_aload_n hM 0 dL_law_1373 rfl,
    ok_iload hM 5 dL_law_1374,
    ok_iconst hM dL_law_1376 rfl,
    ok_iadd hM dL_law_1377,
    ok_sld hM hSc dL_law_1378,
    ok_aload_n hM 0 dL_law_1379 rfl,
    ok_iload hM 5 dL_law_1380,
    ok_iconst hM dL_law_1382 rfl,
    ok_iadd hM dL_law_1383,
    ok_sld hM hSc dL_law_1384,
    ok_aload_n hM 3 dL_law_1385 rfl,
    ok_lS hM hC9 (ctL_utility l hl) gL_law_L_utility rfl rfl rfl (by decide +kernel) (by decide) dL_law_1386,
    ok_FR (ok_istore hM 6 dL_law_1389),
    ok_aload_n hM 2 dL_law_1391 rfl,
    ok_aload_n hM 0 dL_law_1392 rfl,
    ok_iload hM 5 dL_law_1393,
    ok_iconst hM dL_law_1395 rfl,
    ok_iadd hM dL_law_1396,
    ok_sld hM hSc dL_law_1397,
    ok_aload_n hM 0 dL_law_1398 rfl,
    ok_iload hM 5 dL_law_1399,
    ok_iconst hM dL_law_1401 rfl,
    ok_iadd hM dL_law_1402,
    ok_sld hM hSc dL_law_1403,
    ok_lM hM (ctX7_utility l) gL_law_X7_utility rfl rfl rfl (by decide +kernel) (by decide) dL_law_1404,
    ok_FR (ok_istore hM 7 dL_law_1407),
    ok_aload_n hM 2 dL_law_1409 rfl,
    ok_lM hM (c7_thrown l) gL_law_X7_thrown rfl rfl rfl (by decide +kernel) (by decide) dL_law_1410,
    ok_FR (ok_iload hM 6 dL_law_1413),
    ok_icmp_eq hM 1420 dL_law_1415 (by decide),
    ok_iconst hM dL_law_1418 rfl,
    ok_lend hLE dL_law_1419,
    ok_iload hM 6 dL_law_1420,
    ok_if_ne hM 1437 dL_law_1422 (by decide),
    ok_aload_n hM 3 dL_law_1425 rfl,
    ok_iconst hM dL_law_1426 rfl,
    ok_getL (ok_lald hM dL_law_1427),
    ok_iload hM 7 dL_law_1428,
    ok_i2l hM dL_law_1430,
    ok_lcmp hM dL_law_1431,
    ok_if_eq hM 1437 dL_law_1432 (by decide),
    ok_iconst hM dL_law_1435 rfl,
    ok_lend hLE dL_law_1436,
    ok_goto hM 1786 dL_law_1437 (by decide),
    trivial⟩
theorem case_22 {X : gX} {l : Launch} {b Ls : Nat} {xs : Nat → Int32} (h : lawX X l b Ls xs) {j : Nat} (hc : cutOK X [(1786, lwK, lwQ j)]) {vs : List Value} {es : List gE} {k n : Nat} (hp : lwP Ls j vs es k n) : G X 1372 (lwK.zip vs) [] es k n := by
  obtain ⟨c, wy, f, g, E, th, hj, hLs, hinv, hmw, rfl, rfl, hk, hn⟩ := hp
  obtain ⟨k9, ans, c', hr, hinv', hk9⟩ := e_utility (xs (5 * j + 1)) (xs (5 * j + 2)) hinv
  refine wr_ok (kq_22 h) hc 9 1372 _ _ _ _ _ ?_
  refine ⟨5 * j + 1, nI_add _ _, by omega, ?_⟩
  refine ⟨5 * j + 2, nI_add _ _, by omega, ?_⟩
  refine ⟨⟨by omega, by omega⟩, c, wy, f, g, _, rfl, ?_⟩
  refine ⟨c, wy, f, g, _, _, k9, ans, c', rfl, hinv, hr, rfl, fun wy' f' hf' => ?_⟩
  refine ⟨c', wy', f', g, rfl, ?_⟩
  refine ⟨5 * j + 1, nI_add _ _, by omega, ?_⟩
  refine ⟨5 * j + 2, nI_add _ _, by omega, ?_⟩
  refine ⟨⟨by omega, by omega⟩, c', wy', f', g, E, rfl, ⟨c, th, hmw⟩, ?_⟩
  refine ⟨c, th, _, _, k9, ans, c', rfl, hinv, hmw, hr, fun E' hE' => ?_⟩
  refine ⟨⟨c', _, hE'⟩, rfl, ?_⟩
  refine ⟨⟨by omega, by omega⟩, c', wy', f', g, E', rfl, ⟨c', _, hE'⟩, ?_⟩
  refine ⟨c', _, rfl, hE', ?_⟩
  refine ⟨⟨c', _, hE'⟩, rfl, ?_⟩
  refine ⟨fun _ => ?_, fun z => absurd rfl z⟩
  refine ⟨fun _ => ⟨c', wy', f', g, E', _, hinv', hE', rfl, rfl, by omega, by omega⟩, fun z0 => ?_⟩
  obtain rfl := nI_z z0 hk9
  refine ⟨rfl, c', wy', f', g, _, rfl, ?_⟩
  refine ⟨fun _ => ⟨c', wy', f', g, E', _, hinv', hE', rfl, rfl, by omega, by omega⟩, fun z1 => absurd ?_ z1⟩
  show lg_cmp (f' 0) ans.toInt64 = 0
  rw [hf' rfl]
  exact lg_self _
def q_23 (Ls : Nat) (xs : Nat → Int32) : List (Nat × gO) := [(1440, oFR 0 (oALoad 1)), (1441, oALoad 0), (1442, oILoad 5), (1444, oConst (nI 1)), (1445, oAdd), (1446, oSld Ls xs 1999), (1447, oALoad 0), (1448, oILoad 5), (1450, oConst (nI 2)), (1451, oAdd), (1452, oSld Ls xs 1999), (1453, oALoad 0), (1454, oILoad 5), (1456, oConst (nI 3)), (1457, oAdd), (1458, oSld Ls xs 1999), (1459, oALoad 3), (1460, oLS 601024 7293034 2 12 5 sL_monitored), (1463, oFR 0 (oIStore 9 6)), (1465, oALoad 2), (1466, oALoad 0), (1467, oILoad 5), (1469, oConst (nI 1)), (1470, oAdd), (1471, oSld Ls xs 1999), (1472, oALoad 0), (1473, oILoad 5), (1475, oConst (nI 2)), (1476, oAdd), (1477, oSld Ls xs 1999), (1478, oALoad 0), (1479, oILoad 5), (1481, oConst (nI 3)), (1482, oAdd), (1483, oSld Ls xs 1999), (1484, oLM 601024 7293034 3 sX7_monitored), (1487, oFR 0 (oIStore 9 7)), (1489, oALoad 2), (1490, oLM 601024 7293034 0 s7_thrown), (1493, oFR 0 (oILoad 6)), (1495, oICmp_eq 1500), (1498, oConst (nI 0)), (1499, oLEnd), (1500, oILoad 6), (1502, oIf_ne 1517), (1505, oALoad 3), (1506, oConst (nI 0)), (1507, oGetL), (1508, oILoad 7), (1510, oI2L), (1511, oLCmp), (1512, oIf_eq 1517), (1515, oConst (nI 0)), (1516, oLEnd), (1517, oGoto 1786)]
set_option maxRecDepth 100000 in
theorem kq_23 {X : gX} {l : Launch} {b Ls : Nat} {xs : Nat → Int32} (h : lawX X l b Ls xs) : okL X (q_23 Ls xs) := by
  obtain ⟨hM, hSc, hLE, hC9, hl, hnL⟩ := h
  obtain ⟨p, l1, e, R, s, m, args, below, meth, c, D, cA, A, ag, ad0, Q, nL⟩ := X
  cases hnL
  refine ⟨ok_FR (ok_aload_n hM 1 dL_law_1440 rfl),
    ok_aload_n hM 0 dL_law_1441 rfl,
    ok_iload hM 5 dL_law_1442,
    ok_iconst hM dL_law_1444 rfl,
    ok_iadd hM dL_law_1445,
    ok_sld hM hSc dL_law_1446,
    ok_aload_n hM 0 dL_law_1447 rfl,
    ok_iload hM 5 dL_law_1448,
    ok_iconst hM dL_law_1450 rfl,
    ok_iadd hM dL_law_1451,
    ok_sld hM hSc dL_law_1452,
    ok_aload_n hM 0 dL_law_1453 rfl,
    ok_iload hM 5 dL_law_1454,
    ok_iconst hM dL_law_1456 rfl,
    ok_iadd hM dL_law_1457,
    ok_sld hM hSc dL_law_1458,
    ok_aload_n hM 3 dL_law_1459 rfl,
    ok_lS hM hC9 (ctL_monitored l hl) gL_law_L_monitored rfl rfl rfl (by decide +kernel) (by decide) dL_law_1460,
    ok_FR (ok_istore hM 6 dL_law_1463),
    ok_aload_n hM 2 dL_law_1465 rfl,
    ok_aload_n hM 0 dL_law_1466 rfl,
    ok_iload hM 5 dL_law_1467,
    ok_iconst hM dL_law_1469 rfl,
    ok_iadd hM dL_law_1470,
    ok_sld hM hSc dL_law_1471,
    ok_aload_n hM 0 dL_law_1472 rfl,
    ok_iload hM 5 dL_law_1473,
    ok_iconst hM dL_law_1475 rfl,
    ok_iadd hM dL_law_1476,
    ok_sld hM hSc dL_law_1477,
    ok_aload_n hM 0 dL_law_1478 rfl,
    ok_iload hM 5 dL_law_1479,
    ok_iconst hM dL_law_1481 rfl,
    ok_iadd hM dL_law_1482,
    ok_sld hM hSc dL_law_1483,
    ok_lM hM (ctX7_monitored l) gL_law_X7_monitored rfl rfl rfl (by decide +kernel) (by decide) dL_law_1484,
    ok_FR (ok_istore hM 7 dL_law_1487),
    ok_aload_n hM 2 dL_law_1489 rfl,
    ok_lM hM (c7_thrown l) gL_law_X7_thrown rfl rfl rfl (by decide +kernel) (by decide) dL_law_1490,
    ok_FR (ok_iload hM 6 dL_law_1493),
    ok_icmp_eq hM 1500 dL_law_1495 (by decide),
    ok_iconst hM dL_law_1498 rfl,
    ok_lend hLE dL_law_1499,
    ok_iload hM 6 dL_law_1500,
    ok_if_ne hM 1517 dL_law_1502 (by decide),
    ok_aload_n hM 3 dL_law_1505 rfl,
    ok_iconst hM dL_law_1506 rfl,
    ok_getL (ok_lald hM dL_law_1507),
    ok_iload hM 7 dL_law_1508,
    ok_i2l hM dL_law_1510,
    ok_lcmp hM dL_law_1511,
    ok_if_eq hM 1517 dL_law_1512 (by decide),
    ok_iconst hM dL_law_1515 rfl,
    ok_lend hLE dL_law_1516,
    ok_goto hM 1786 dL_law_1517 (by decide),
    trivial⟩
theorem case_23 {X : gX} {l : Launch} {b Ls : Nat} {xs : Nat → Int32} (h : lawX X l b Ls xs) {j : Nat} (hc : cutOK X [(1786, lwK, lwQ j)]) {vs : List Value} {es : List gE} {k n : Nat} (hp : lwP Ls j vs es k n) : G X 1440 (lwK.zip vs) [] es k n := by
  obtain ⟨c, wy, f, g, E, th, hj, hLs, hinv, hmw, rfl, rfl, hk, hn⟩ := hp
  obtain ⟨k9, ans, c', hr, hinv', hk9⟩ := e_monitored (xs (5 * j + 1)) (xs (5 * j + 2)) (xs (5 * j + 3)) hinv
  refine wr_ok (kq_23 h) hc 9 1440 _ _ _ _ _ ?_
  refine ⟨5 * j + 1, nI_add _ _, by omega, ?_⟩
  refine ⟨5 * j + 2, nI_add _ _, by omega, ?_⟩
  refine ⟨5 * j + 3, nI_add _ _, by omega, ?_⟩
  refine ⟨⟨by omega, by omega⟩, c, wy, f, g, _, rfl, ?_⟩
  refine ⟨c, wy, f, g, _, _, _, k9, ans, c', rfl, hinv, hr, rfl, fun wy' f' hf' => ?_⟩
  refine ⟨c', wy', f', g, rfl, ?_⟩
  refine ⟨5 * j + 1, nI_add _ _, by omega, ?_⟩
  refine ⟨5 * j + 2, nI_add _ _, by omega, ?_⟩
  refine ⟨5 * j + 3, nI_add _ _, by omega, ?_⟩
  refine ⟨⟨by omega, by omega⟩, c', wy', f', g, E, rfl, ⟨c, th, hmw⟩, ?_⟩
  refine ⟨c, th, _, _, _, k9, ans, c', rfl, hinv, hmw, hr, fun E' hE' => ?_⟩
  refine ⟨⟨c', _, hE'⟩, rfl, ?_⟩
  refine ⟨⟨by omega, by omega⟩, c', wy', f', g, E', rfl, ⟨c', _, hE'⟩, ?_⟩
  refine ⟨c', _, rfl, hE', ?_⟩
  refine ⟨⟨c', _, hE'⟩, rfl, ?_⟩
  refine ⟨fun _ => ?_, fun z => absurd rfl z⟩
  refine ⟨fun _ => ⟨c', wy', f', g, E', _, hinv', hE', rfl, rfl, by omega, by omega⟩, fun z0 => ?_⟩
  obtain rfl := nI_z z0 hk9
  refine ⟨rfl, c', wy', f', g, _, rfl, ?_⟩
  refine ⟨fun _ => ⟨c', wy', f', g, E', _, hinv', hE', rfl, rfl, by omega, by omega⟩, fun z1 => absurd ?_ z1⟩
  show lg_cmp (f' 0) ans.toInt64 = 0
  rw [hf' rfl]
  exact lg_self _
def q_24 (Ls : Nat) (xs : Nat → Int32) : List (Nat × gO) := [(1520, oFR 0 (oALoad 1)), (1521, oALoad 0), (1522, oILoad 5), (1524, oConst (nI 1)), (1525, oAdd), (1526, oSld Ls xs 1999), (1527, oALoad 3), (1528, oLS 601024 7293034 1 6 3 sL_target), (1531, oFR 0 (oIStore 9 6)), (1533, oALoad 2), (1534, oALoad 0), (1535, oILoad 5), (1537, oConst (nI 1)), (1538, oAdd), (1539, oSld Ls xs 1999), (1540, oLM 601024 7293034 1 sX7_target), (1543, oFR 0 (oIStore 9 7)), (1545, oALoad 2), (1546, oLM 601024 7293034 0 s7_thrown), (1549, oFR 0 (oILoad 6)), (1551, oICmp_eq 1556), (1554, oConst (nI 0)), (1555, oLEnd), (1556, oILoad 6), (1558, oIf_ne 1573), (1561, oALoad 3), (1562, oConst (nI 0)), (1563, oGetL), (1564, oILoad 7), (1566, oI2L), (1567, oLCmp), (1568, oIf_eq 1573), (1571, oConst (nI 0)), (1572, oLEnd), (1573, oGoto 1786)]
set_option maxRecDepth 100000 in
theorem kq_24 {X : gX} {l : Launch} {b Ls : Nat} {xs : Nat → Int32} (h : lawX X l b Ls xs) : okL X (q_24 Ls xs) := by
  obtain ⟨hM, hSc, hLE, hC9, hl, hnL⟩ := h
  obtain ⟨p, l1, e, R, s, m, args, below, meth, c, D, cA, A, ag, ad0, Q, nL⟩ := X
  cases hnL
  refine ⟨ok_FR (ok_aload_n hM 1 dL_law_1520 rfl),
    ok_aload_n hM 0 dL_law_1521 rfl,
    ok_iload hM 5 dL_law_1522,
    ok_iconst hM dL_law_1524 rfl,
    ok_iadd hM dL_law_1525,
    ok_sld hM hSc dL_law_1526,
    ok_aload_n hM 3 dL_law_1527 rfl,
    ok_lS hM hC9 (ctL_target l hl) gL_law_L_target rfl rfl rfl (by decide +kernel) (by decide) dL_law_1528,
    ok_FR (ok_istore hM 6 dL_law_1531),
    ok_aload_n hM 2 dL_law_1533 rfl,
    ok_aload_n hM 0 dL_law_1534 rfl,
    ok_iload hM 5 dL_law_1535,
    ok_iconst hM dL_law_1537 rfl,
    ok_iadd hM dL_law_1538,
    ok_sld hM hSc dL_law_1539,
    ok_lM hM (ctX7_target l) gL_law_X7_target rfl rfl rfl (by decide +kernel) (by decide) dL_law_1540,
    ok_FR (ok_istore hM 7 dL_law_1543),
    ok_aload_n hM 2 dL_law_1545 rfl,
    ok_lM hM (c7_thrown l) gL_law_X7_thrown rfl rfl rfl (by decide +kernel) (by decide) dL_law_1546,
    ok_FR (ok_iload hM 6 dL_law_1549),
    ok_icmp_eq hM 1556 dL_law_1551 (by decide),
    ok_iconst hM dL_law_1554 rfl,
    ok_lend hLE dL_law_1555,
    ok_iload hM 6 dL_law_1556,
    ok_if_ne hM 1573 dL_law_1558 (by decide),
    ok_aload_n hM 3 dL_law_1561 rfl,
    ok_iconst hM dL_law_1562 rfl,
    ok_getL (ok_lald hM dL_law_1563),
    ok_iload hM 7 dL_law_1564,
    ok_i2l hM dL_law_1566,
    ok_lcmp hM dL_law_1567,
    ok_if_eq hM 1573 dL_law_1568 (by decide),
    ok_iconst hM dL_law_1571 rfl,
    ok_lend hLE dL_law_1572,
    ok_goto hM 1786 dL_law_1573 (by decide),
    trivial⟩
theorem case_24 {X : gX} {l : Launch} {b Ls : Nat} {xs : Nat → Int32} (h : lawX X l b Ls xs) {j : Nat} (hc : cutOK X [(1786, lwK, lwQ j)]) {vs : List Value} {es : List gE} {k n : Nat} (hp : lwP Ls j vs es k n) : G X 1520 (lwK.zip vs) [] es k n := by
  obtain ⟨c, wy, f, g, E, th, hj, hLs, hinv, hmw, rfl, rfl, hk, hn⟩ := hp
  obtain ⟨k9, ans, c', hr, hinv', hk9⟩ := e_target (xs (5 * j + 1)) hinv
  refine wr_ok (kq_24 h) hc 9 1520 _ _ _ _ _ ?_
  refine ⟨5 * j + 1, nI_add _ _, by omega, ?_⟩
  refine ⟨⟨by omega, by omega⟩, c, wy, f, g, _, rfl, ?_⟩
  refine ⟨c, wy, f, g, _, k9, ans, c', rfl, hinv, hr, rfl, fun wy' f' hf' => ?_⟩
  refine ⟨c', wy', f', g, rfl, ?_⟩
  refine ⟨5 * j + 1, nI_add _ _, by omega, ?_⟩
  refine ⟨⟨by omega, by omega⟩, c', wy', f', g, E, rfl, ⟨c, th, hmw⟩, ?_⟩
  refine ⟨c, th, _, k9, ans, c', rfl, hinv, hmw, hr, fun E' hE' => ?_⟩
  refine ⟨⟨c', _, hE'⟩, rfl, ?_⟩
  refine ⟨⟨by omega, by omega⟩, c', wy', f', g, E', rfl, ⟨c', _, hE'⟩, ?_⟩
  refine ⟨c', _, rfl, hE', ?_⟩
  refine ⟨⟨c', _, hE'⟩, rfl, ?_⟩
  refine ⟨fun _ => ?_, fun z => absurd rfl z⟩
  refine ⟨fun _ => ⟨c', wy', f', g, E', _, hinv', hE', rfl, rfl, by omega, by omega⟩, fun z0 => ?_⟩
  obtain rfl := nI_z z0 hk9
  refine ⟨rfl, c', wy', f', g, _, rfl, ?_⟩
  refine ⟨fun _ => ⟨c', wy', f', g, E', _, hinv', hE', rfl, rfl, by omega, by omega⟩, fun z1 => absurd ?_ z1⟩
  show lg_cmp (f' 0) ans.toInt64 = 0
  rw [hf' rfl]
  exact lg_self _
def q_25 (Ls : Nat) (xs : Nat → Int32) : List (Nat × gO) := [(1576, oFR 0 (oALoad 1)), (1577, oLV 601024 7293034 0 s6_movesLeft), (1580, oFR 0 (oALoad 2)), (1581, oLM 601024 7293034 0 sX7_movesLeft), (1584, oFR 0 (oICmp_eq 1786)), (1587, oConst (nI 0)), (1588, oLEnd)]
set_option maxRecDepth 100000 in
theorem kq_25 {X : gX} {l : Launch} {b Ls : Nat} {xs : Nat → Int32} (h : lawX X l b Ls xs) : okL X (q_25 Ls xs) := by
  obtain ⟨hM, hSc, hLE, hC9, hl, hnL⟩ := h
  obtain ⟨p, l1, e, R, s, m, args, below, meth, c, D, cA, A, ag, ad0, Q, nL⟩ := X
  cases hnL
  refine ⟨ok_FR (ok_aload_n hM 1 dL_law_1576 rfl),
    ok_lV hM (c6_movesLeft l) gL_law_X6_movesLeft rfl rfl rfl (by decide +kernel) (by decide) dL_law_1577,
    ok_FR (ok_aload_n hM 2 dL_law_1580 rfl),
    ok_lM hM (ctX7_movesLeft l) gL_law_X7_movesLeft rfl rfl rfl (by decide +kernel) (by decide) dL_law_1581,
    ok_FR (ok_icmp_eq hM 1786 dL_law_1584 (by decide)),
    ok_iconst hM dL_law_1587 rfl,
    ok_lend hLE dL_law_1588,
    trivial⟩
theorem case_25 {X : gX} {l : Launch} {b Ls : Nat} {xs : Nat → Int32} (h : lawX X l b Ls xs) {j : Nat} (hc : cutOK X [(1786, lwK, lwQ j)]) {vs : List Value} {es : List gE} {k n : Nat} (hp : lwP Ls j vs es k n) : G X 1576 (lwK.zip vs) [] es k n := by
  obtain ⟨c, wy, f, g, E, th, hj, hLs, hinv, hmw, rfl, rfl, hk, hn⟩ := hp
  refine wr_ok (kq_25 h) hc 9 1576 _ _ _ _ _ ?_
  refine ⟨⟨by omega, by omega⟩, c, wy, f, g, _, rfl, ?_⟩
  refine ⟨c, wy, rfl, hinv, rfl, fun wy' => ?_⟩
  refine ⟨c, wy', rfl, ?_⟩
  refine ⟨⟨by omega, by omega⟩, c, wy', f, g, E, rfl, ⟨c, th, hmw⟩, ?_⟩
  refine ⟨c, th, rfl, hinv, hmw, fun E' hE' => ?_⟩
  refine ⟨⟨c, _, hE'⟩, rfl, ?_⟩
  exact ⟨fun _ => ⟨c, wy', f, g, E', _, hinv, hE', rfl, rfl, by omega, by omega⟩, fun z => absurd rfl z⟩
def q_26 (Ls : Nat) (xs : Nat → Int32) : List (Nat × gO) := [(1589, oFR 0 (oALoad 1)), (1590, oLV 601024 7293034 0 s6_totalUtility), (1593, oFR 0 (oALoad 2)), (1594, oLM 601024 7293034 0 sX7_totalUtility), (1597, oFR 0 (oICmp_eq 1786)), (1600, oConst (nI 0)), (1601, oLEnd)]
set_option maxRecDepth 100000 in
theorem kq_26 {X : gX} {l : Launch} {b Ls : Nat} {xs : Nat → Int32} (h : lawX X l b Ls xs) : okL X (q_26 Ls xs) := by
  obtain ⟨hM, hSc, hLE, hC9, hl, hnL⟩ := h
  obtain ⟨p, l1, e, R, s, m, args, below, meth, c, D, cA, A, ag, ad0, Q, nL⟩ := X
  cases hnL
  refine ⟨ok_FR (ok_aload_n hM 1 dL_law_1589 rfl),
    ok_lV hM (c6_totalUtility l) gL_law_X6_totalUtility rfl rfl rfl (by decide +kernel) (by decide) dL_law_1590,
    ok_FR (ok_aload_n hM 2 dL_law_1593 rfl),
    ok_lM hM (ctX7_totalUtility l) gL_law_X7_totalUtility rfl rfl rfl (by decide +kernel) (by decide) dL_law_1594,
    ok_FR (ok_icmp_eq hM 1786 dL_law_1597 (by decide)),
    ok_iconst hM dL_law_1600 rfl,
    ok_lend hLE dL_law_1601,
    trivial⟩
theorem case_26 {X : gX} {l : Launch} {b Ls : Nat} {xs : Nat → Int32} (h : lawX X l b Ls xs) {j : Nat} (hc : cutOK X [(1786, lwK, lwQ j)]) {vs : List Value} {es : List gE} {k n : Nat} (hp : lwP Ls j vs es k n) : G X 1589 (lwK.zip vs) [] es k n := by
  obtain ⟨c, wy, f, g, E, th, hj, hLs, hinv, hmw, rfl, rfl, hk, hn⟩ := hp
  refine wr_ok (kq_26 h) hc 9 1589 _ _ _ _ _ ?_
  refine ⟨⟨by omega, by omega⟩, c, wy, f, g, _, rfl, ?_⟩
  refine ⟨c, wy, rfl, hinv, rfl, fun wy' => ?_⟩
  refine ⟨c, wy', rfl, ?_⟩
  refine ⟨⟨by omega, by omega⟩, c, wy', f, g, E, rfl, ⟨c, th, hmw⟩, ?_⟩
  refine ⟨c, th, rfl, hinv, hmw, fun E' hE' => ?_⟩
  refine ⟨⟨c, _, hE'⟩, rfl, ?_⟩
  exact ⟨fun _ => ⟨c, wy', f, g, E', _, hinv, hE', rfl, rfl, by omega, by omega⟩, fun z => absurd rfl z⟩
def q_27 (Ls : Nat) (xs : Nat → Int32) : List (Nat × gO) := [(1602, oFR 0 (oALoad 1)), (1603, oALoad 0), (1604, oILoad 5), (1606, oConst (nI 1)), (1607, oAdd), (1608, oSld Ls xs 1999), (1609, oALoad 0), (1610, oILoad 5), (1612, oConst (nI 2)), (1613, oAdd), (1614, oSld Ls xs 1999), (1615, oALoad 3), (1616, oLS 601024 7293034 2 12 4 sL_count), (1619, oFR 0 (oIStore 9 6)), (1621, oALoad 2), (1622, oALoad 0), (1623, oILoad 5), (1625, oConst (nI 1)), (1626, oAdd), (1627, oSld Ls xs 1999), (1628, oALoad 0), (1629, oILoad 5), (1631, oConst (nI 2)), (1632, oAdd), (1633, oSld Ls xs 1999), (1634, oLM 601024 7293034 2 sX7_count), (1637, oFR 0 (oIStore 9 7)), (1639, oALoad 2), (1640, oLM 601024 7293034 0 s7_thrown), (1643, oFR 0 (oILoad 6)), (1645, oICmp_eq 1650), (1648, oConst (nI 0)), (1649, oLEnd), (1650, oILoad 6), (1652, oIf_ne 1667), (1655, oALoad 3), (1656, oConst (nI 0)), (1657, oGetL), (1658, oILoad 7), (1660, oI2L), (1661, oLCmp), (1662, oIf_eq 1667), (1665, oConst (nI 0)), (1666, oLEnd), (1667, oGoto 1786)]
set_option maxRecDepth 100000 in
theorem kq_27 {X : gX} {l : Launch} {b Ls : Nat} {xs : Nat → Int32} (h : lawX X l b Ls xs) : okL X (q_27 Ls xs) := by
  obtain ⟨hM, hSc, hLE, hC9, hl, hnL⟩ := h
  obtain ⟨p, l1, e, R, s, m, args, below, meth, c, D, cA, A, ag, ad0, Q, nL⟩ := X
  cases hnL
  refine ⟨ok_FR (ok_aload_n hM 1 dL_law_1602 rfl),
    ok_aload_n hM 0 dL_law_1603 rfl,
    ok_iload hM 5 dL_law_1604,
    ok_iconst hM dL_law_1606 rfl,
    ok_iadd hM dL_law_1607,
    ok_sld hM hSc dL_law_1608,
    ok_aload_n hM 0 dL_law_1609 rfl,
    ok_iload hM 5 dL_law_1610,
    ok_iconst hM dL_law_1612 rfl,
    ok_iadd hM dL_law_1613,
    ok_sld hM hSc dL_law_1614,
    ok_aload_n hM 3 dL_law_1615 rfl,
    ok_lS hM hC9 (ctL_count l hl) gL_law_L_count rfl rfl rfl (by decide +kernel) (by decide) dL_law_1616,
    ok_FR (ok_istore hM 6 dL_law_1619),
    ok_aload_n hM 2 dL_law_1621 rfl,
    ok_aload_n hM 0 dL_law_1622 rfl,
    ok_iload hM 5 dL_law_1623,
    ok_iconst hM dL_law_1625 rfl,
    ok_iadd hM dL_law_1626,
    ok_sld hM hSc dL_law_1627,
    ok_aload_n hM 0 dL_law_1628 rfl,
    ok_iload hM 5 dL_law_1629,
    ok_iconst hM dL_law_1631 rfl,
    ok_iadd hM dL_law_1632,
    ok_sld hM hSc dL_law_1633,
    ok_lM hM (ctX7_count l) gL_law_X7_count rfl rfl rfl (by decide +kernel) (by decide) dL_law_1634,
    ok_FR (ok_istore hM 7 dL_law_1637),
    ok_aload_n hM 2 dL_law_1639 rfl,
    ok_lM hM (c7_thrown l) gL_law_X7_thrown rfl rfl rfl (by decide +kernel) (by decide) dL_law_1640,
    ok_FR (ok_iload hM 6 dL_law_1643),
    ok_icmp_eq hM 1650 dL_law_1645 (by decide),
    ok_iconst hM dL_law_1648 rfl,
    ok_lend hLE dL_law_1649,
    ok_iload hM 6 dL_law_1650,
    ok_if_ne hM 1667 dL_law_1652 (by decide),
    ok_aload_n hM 3 dL_law_1655 rfl,
    ok_iconst hM dL_law_1656 rfl,
    ok_getL (ok_lald hM dL_law_1657),
    ok_iload hM 7 dL_law_1658,
    ok_i2l hM dL_law_1660,
    ok_lcmp hM dL_law_1661,
    ok_if_eq hM 1667 dL_law_1662 (by decide),
    ok_iconst hM dL_law_1665 rfl,
    ok_lend hLE dL_law_1666,
    ok_goto hM 1786 dL_law_1667 (by decide),
    trivial⟩
theorem case_27 {X : gX} {l : Launch} {b Ls : Nat} {xs : Nat → Int32} (h : lawX X l b Ls xs) {j : Nat} (hc : cutOK X [(1786, lwK, lwQ j)]) {vs : List Value} {es : List gE} {k n : Nat} (hp : lwP Ls j vs es k n) : G X 1602 (lwK.zip vs) [] es k n := by
  obtain ⟨c, wy, f, g, E, th, hj, hLs, hinv, hmw, rfl, rfl, hk, hn⟩ := hp
  obtain ⟨k9, ans, c', hr, hinv', hk9⟩ := e_count (xs (5 * j + 1)) (xs (5 * j + 2)) hinv
  refine wr_ok (kq_27 h) hc 9 1602 _ _ _ _ _ ?_
  refine ⟨5 * j + 1, nI_add _ _, by omega, ?_⟩
  refine ⟨5 * j + 2, nI_add _ _, by omega, ?_⟩
  refine ⟨⟨by omega, by omega⟩, c, wy, f, g, _, rfl, ?_⟩
  refine ⟨c, wy, f, g, _, _, k9, ans, c', rfl, hinv, hr, rfl, fun wy' f' hf' => ?_⟩
  refine ⟨c', wy', f', g, rfl, ?_⟩
  refine ⟨5 * j + 1, nI_add _ _, by omega, ?_⟩
  refine ⟨5 * j + 2, nI_add _ _, by omega, ?_⟩
  refine ⟨⟨by omega, by omega⟩, c', wy', f', g, E, rfl, ⟨c, th, hmw⟩, ?_⟩
  refine ⟨c, th, _, _, k9, ans, c', rfl, hinv, hmw, hr, fun E' hE' => ?_⟩
  refine ⟨⟨c', _, hE'⟩, rfl, ?_⟩
  refine ⟨⟨by omega, by omega⟩, c', wy', f', g, E', rfl, ⟨c', _, hE'⟩, ?_⟩
  refine ⟨c', _, rfl, hE', ?_⟩
  refine ⟨⟨c', _, hE'⟩, rfl, ?_⟩
  refine ⟨fun _ => ?_, fun z => absurd rfl z⟩
  refine ⟨fun _ => ⟨c', wy', f', g, E', _, hinv', hE', rfl, rfl, by omega, by omega⟩, fun z0 => ?_⟩
  obtain rfl := nI_z z0 hk9
  refine ⟨rfl, c', wy', f', g, _, rfl, ?_⟩
  refine ⟨fun _ => ⟨c', wy', f', g, E', _, hinv', hE', rfl, rfl, by omega, by omega⟩, fun z1 => absurd ?_ z1⟩
  show lg_cmp (f' 0) ans.toInt64 = 0
  rw [hf' rfl]
  exact lg_self _
def q_28 (Ls : Nat) (xs : Nat → Int32) : List (Nat × gO) := [(1670, oFR 0 (oALoad 1)), (1671, oLV 601024 7293034 0 s6_accesses), (1674, oFR 0 (oALoad 2)), (1675, oLM 601024 7293034 0 sX7_accesses), (1678, oFR 0 (oICmp_eq 1786)), (1681, oConst (nI 0)), (1682, oLEnd)]
set_option maxRecDepth 100000 in
theorem kq_28 {X : gX} {l : Launch} {b Ls : Nat} {xs : Nat → Int32} (h : lawX X l b Ls xs) : okL X (q_28 Ls xs) := by
  obtain ⟨hM, hSc, hLE, hC9, hl, hnL⟩ := h
  obtain ⟨p, l1, e, R, s, m, args, below, meth, c, D, cA, A, ag, ad0, Q, nL⟩ := X
  cases hnL
  refine ⟨ok_FR (ok_aload_n hM 1 dL_law_1670 rfl),
    ok_lV hM (c6_accesses l) gL_law_X6_accesses rfl rfl rfl (by decide +kernel) (by decide) dL_law_1671,
    ok_FR (ok_aload_n hM 2 dL_law_1674 rfl),
    ok_lM hM (ctX7_accesses l) gL_law_X7_accesses rfl rfl rfl (by decide +kernel) (by decide) dL_law_1675,
    ok_FR (ok_icmp_eq hM 1786 dL_law_1678 (by decide)),
    ok_iconst hM dL_law_1681 rfl,
    ok_lend hLE dL_law_1682,
    trivial⟩
theorem case_28 {X : gX} {l : Launch} {b Ls : Nat} {xs : Nat → Int32} (h : lawX X l b Ls xs) {j : Nat} (hc : cutOK X [(1786, lwK, lwQ j)]) {vs : List Value} {es : List gE} {k n : Nat} (hp : lwP Ls j vs es k n) : G X 1670 (lwK.zip vs) [] es k n := by
  obtain ⟨c, wy, f, g, E, th, hj, hLs, hinv, hmw, rfl, rfl, hk, hn⟩ := hp
  refine wr_ok (kq_28 h) hc 9 1670 _ _ _ _ _ ?_
  refine ⟨⟨by omega, by omega⟩, c, wy, f, g, _, rfl, ?_⟩
  refine ⟨c, wy, rfl, hinv, rfl, fun wy' => ?_⟩
  refine ⟨c, wy', rfl, ?_⟩
  refine ⟨⟨by omega, by omega⟩, c, wy', f, g, E, rfl, ⟨c, th, hmw⟩, ?_⟩
  refine ⟨c, th, rfl, hinv, hmw, fun E' hE' => ?_⟩
  refine ⟨⟨c, _, hE'⟩, rfl, ?_⟩
  exact ⟨fun _ => ⟨c, wy', f, g, E', _, hinv, hE', rfl, rfl, by omega, by omega⟩, fun z => absurd rfl z⟩
def q_29 (Ls : Nat) (xs : Nat → Int32) : List (Nat × gO) := [(1683, oFR 0 (oALoad 1)), (1684, oALoad 0), (1685, oILoad 5), (1687, oConst (nI 1)), (1688, oAdd), (1689, oSld Ls xs 1999), (1690, oALoad 4), (1692, oLS 601024 7293034 1 6 3 sL_hitRate), (1695, oFR 0 (oIStore 9 6)), (1697, oALoad 2), (1698, oALoad 0), (1699, oILoad 5), (1701, oConst (nI 1)), (1702, oAdd), (1703, oSld Ls xs 1999), (1704, oLM 601024 7293034 1 sX7_hitRate), (1707, oFR 0 (oDStore 9 7)), (1709, oALoad 2), (1710, oLM 601024 7293034 0 s7_thrown), (1713, oFR 0 (oILoad 6)), (1715, oICmp_eq 1720), (1718, oConst (nI 0)), (1719, oLEnd), (1720, oILoad 6), (1722, oIf_ne 1757), (1725, oALoad 4), (1727, oConst (nI 0)), (1728, oGetD), (1729, oDLoad 7), (1731, oDCmp .l), (1732, oIf_eq 1757), (1735, oALoad 4), (1737, oConst (nI 0)), (1738, oGetD), (1739, oALoad 4), (1741, oConst (nI 0)), (1742, oGetD), (1743, oDCmp .l), (1744, oIf_eq 1755), (1747, oDLoad 7), (1749, oDLoad 7), (1751, oDCmp .l), (1752, oIf_ne 1757), (1755, oConst (nI 0)), (1756, oLEnd), (1757, oGoto 1786)]
set_option maxRecDepth 100000 in
theorem kq_29 {X : gX} {l : Launch} {b Ls : Nat} {xs : Nat → Int32} (h : lawX X l b Ls xs) : okL X (q_29 Ls xs) := by
  obtain ⟨hM, hSc, hLE, hC9, hl, hnL⟩ := h
  obtain ⟨p, l1, e, R, s, m, args, below, meth, c, D, cA, A, ag, ad0, Q, nL⟩ := X
  cases hnL
  refine ⟨ok_FR (ok_aload_n hM 1 dL_law_1683 rfl),
    ok_aload_n hM 0 dL_law_1684 rfl,
    ok_iload hM 5 dL_law_1685,
    ok_iconst hM dL_law_1687 rfl,
    ok_iadd hM dL_law_1688,
    ok_sld hM hSc dL_law_1689,
    ok_aload hM 4 dL_law_1690,
    ok_lS hM hC9 (ctL_hitRate l hl) gL_law_L_hitRate rfl rfl rfl (by decide +kernel) (by decide) dL_law_1692,
    ok_FR (ok_istore hM 6 dL_law_1695),
    ok_aload_n hM 2 dL_law_1697 rfl,
    ok_aload_n hM 0 dL_law_1698 rfl,
    ok_iload hM 5 dL_law_1699,
    ok_iconst hM dL_law_1701 rfl,
    ok_iadd hM dL_law_1702,
    ok_sld hM hSc dL_law_1703,
    ok_lM hM (ctX7_hitRate l) gL_law_X7_hitRate rfl rfl rfl (by decide +kernel) (by decide) dL_law_1704,
    ok_FR (ok_dstore hM 7 dL_law_1707),
    ok_aload_n hM 2 dL_law_1709 rfl,
    ok_lM hM (c7_thrown l) gL_law_X7_thrown rfl rfl rfl (by decide +kernel) (by decide) dL_law_1710,
    ok_FR (ok_iload hM 6 dL_law_1713),
    ok_icmp_eq hM 1720 dL_law_1715 (by decide),
    ok_iconst hM dL_law_1718 rfl,
    ok_lend hLE dL_law_1719,
    ok_iload hM 6 dL_law_1720,
    ok_if_ne hM 1757 dL_law_1722 (by decide),
    ok_aload hM 4 dL_law_1725,
    ok_iconst hM dL_law_1727 rfl,
    ok_getD (ok_dald hM dL_law_1728),
    ok_dload hM 7 dL_law_1729,
    ok_dcmp hM dL_law_1731,
    ok_if_eq hM 1757 dL_law_1732 (by decide),
    ok_aload hM 4 dL_law_1735,
    ok_iconst hM dL_law_1737 rfl,
    ok_getD (ok_dald hM dL_law_1738),
    ok_aload hM 4 dL_law_1739,
    ok_iconst hM dL_law_1741 rfl,
    ok_getD (ok_dald hM dL_law_1742),
    ok_dcmp hM dL_law_1743,
    ok_if_eq hM 1755 dL_law_1744 (by decide),
    ok_dload hM 7 dL_law_1747,
    ok_dload hM 7 dL_law_1749,
    ok_dcmp hM dL_law_1751,
    ok_if_ne hM 1757 dL_law_1752 (by decide),
    ok_iconst hM dL_law_1755 rfl,
    ok_lend hLE dL_law_1756,
    ok_goto hM 1786 dL_law_1757 (by decide),
    trivial⟩
theorem case_29 {X : gX} {l : Launch} {b Ls : Nat} {xs : Nat → Int32} (h : lawX X l b Ls xs) {j : Nat} (hc : cutOK X [(1786, lwK, lwQ j)]) {vs : List Value} {es : List gE} {k n : Nat} (hp : lwP Ls j vs es k n) : G X 1683 (lwK.zip vs) [] es k n := by
  obtain ⟨c, wy, f, g, E, th, hj, hLs, hinv, hmw, rfl, rfl, hk, hn⟩ := hp
  obtain ⟨k9, ans, c', hr, hinv', hk9⟩ := e_hitRate (xs (5 * j + 1)) hinv
  refine wr_ok (kq_29 h) hc 9 1683 _ _ _ _ _ ?_
  refine ⟨5 * j + 1, nI_add _ _, by omega, ?_⟩
  refine ⟨⟨by omega, by omega⟩, c, wy, f, g, _, rfl, ?_⟩
  refine ⟨c, wy, f, g, _, k9, ans, c', rfl, hinv, hr, rfl, fun wy' g' hf' => ?_⟩
  refine ⟨c', wy', f, g', rfl, ?_⟩
  refine ⟨5 * j + 1, nI_add _ _, by omega, ?_⟩
  refine ⟨⟨by omega, by omega⟩, c', wy', f, g', E, rfl, ⟨c, th, hmw⟩, ?_⟩
  refine ⟨c, th, _, k9, ans, c', rfl, hinv, hmw, hr, fun E' hE' => ?_⟩
  refine ⟨⟨c', _, hE'⟩, rfl, ?_⟩
  refine ⟨⟨by omega, by omega⟩, c', wy', f, g', E', rfl, ⟨c', _, hE'⟩, ?_⟩
  refine ⟨c', _, rfl, hE', ?_⟩
  refine ⟨⟨c', _, hE'⟩, rfl, ?_⟩
  refine ⟨fun _ => ?_, fun z => absurd rfl z⟩
  refine ⟨fun _ => ⟨c', wy', f, g', E', _, hinv', hE', rfl, rfl, by omega, by omega⟩, fun z0 => ?_⟩
  obtain rfl := nI_z z0 hk9
  obtain ⟨v9, t9, ea⟩ := hr_form hr
  refine ⟨rfl, c', wy', f, g', _, rfl, ?_⟩
  refine ⟨fun _ => ⟨c', wy', f, g', E', _, hinv', hE', rfl, rfl, by omega, by omega⟩, fun z1 => absurd ?_ z1⟩
  show Op.cmpValue (FP.dcmp (g' 0) ans) .l = 0
  rw [hf' rfl, ea]
  exact hr_cmp v9 t9 .l
def q_30 (Ls : Nat) (xs : Nat → Int32) : List (Nat × gO) := [(1760, oFR 0 (oALoad 1)), (1761, oLV 601024 7293034 0 s6_savedStates), (1764, oFR 0 (oALoad 2)), (1765, oLM 601024 7293034 0 sX7_savedStates), (1768, oFR 0 (oICmp_eq 1786)), (1771, oConst (nI 0)), (1772, oLEnd)]
set_option maxRecDepth 100000 in
theorem kq_30 {X : gX} {l : Launch} {b Ls : Nat} {xs : Nat → Int32} (h : lawX X l b Ls xs) : okL X (q_30 Ls xs) := by
  obtain ⟨hM, hSc, hLE, hC9, hl, hnL⟩ := h
  obtain ⟨p, l1, e, R, s, m, args, below, meth, c, D, cA, A, ag, ad0, Q, nL⟩ := X
  cases hnL
  refine ⟨ok_FR (ok_aload_n hM 1 dL_law_1760 rfl),
    ok_lV hM (c6_savedStates l) gL_law_X6_savedStates rfl rfl rfl (by decide +kernel) (by decide) dL_law_1761,
    ok_FR (ok_aload_n hM 2 dL_law_1764 rfl),
    ok_lM hM (ctX7_savedStates l) gL_law_X7_savedStates rfl rfl rfl (by decide +kernel) (by decide) dL_law_1765,
    ok_FR (ok_icmp_eq hM 1786 dL_law_1768 (by decide)),
    ok_iconst hM dL_law_1771 rfl,
    ok_lend hLE dL_law_1772,
    trivial⟩
theorem case_30 {X : gX} {l : Launch} {b Ls : Nat} {xs : Nat → Int32} (h : lawX X l b Ls xs) {j : Nat} (hc : cutOK X [(1786, lwK, lwQ j)]) {vs : List Value} {es : List gE} {k n : Nat} (hp : lwP Ls j vs es k n) : G X 1760 (lwK.zip vs) [] es k n := by
  obtain ⟨c, wy, f, g, E, th, hj, hLs, hinv, hmw, rfl, rfl, hk, hn⟩ := hp
  refine wr_ok (kq_30 h) hc 9 1760 _ _ _ _ _ ?_
  refine ⟨⟨by omega, by omega⟩, c, wy, f, g, _, rfl, ?_⟩
  refine ⟨c, wy, rfl, hinv, rfl, fun wy' => ?_⟩
  refine ⟨c, wy', rfl, ?_⟩
  refine ⟨⟨by omega, by omega⟩, c, wy', f, g, E, rfl, ⟨c, th, hmw⟩, ?_⟩
  refine ⟨c, th, rfl, hinv, hmw, fun E' hE' => ?_⟩
  refine ⟨⟨c, _, hE'⟩, rfl, ?_⟩
  exact ⟨fun _ => ⟨c, wy', f, g, E', _, hinv, hE', rfl, rfl, by omega, by omega⟩, fun z => absurd rfl z⟩
def q_31 (Ls : Nat) (xs : Nat → Int32) : List (Nat × gO) := [(1773, oFR 0 (oALoad 1)), (1774, oLV 601024 7293034 0 s6_textLength), (1777, oFR 0 (oALoad 2)), (1778, oLM 601024 7293034 0 sX7_textLength), (1781, oFR 0 (oICmp_eq 1786)), (1784, oConst (nI 0)), (1785, oLEnd)]
set_option maxRecDepth 100000 in
theorem kq_31 {X : gX} {l : Launch} {b Ls : Nat} {xs : Nat → Int32} (h : lawX X l b Ls xs) : okL X (q_31 Ls xs) := by
  obtain ⟨hM, hSc, hLE, hC9, hl, hnL⟩ := h
  obtain ⟨p, l1, e, R, s, m, args, below, meth, c, D, cA, A, ag, ad0, Q, nL⟩ := X
  cases hnL
  refine ⟨ok_FR (ok_aload_n hM 1 dL_law_1773 rfl),
    ok_lV hM (c6_textLength l) gL_law_X6_textLength rfl rfl rfl (by decide +kernel) (by decide) dL_law_1774,
    ok_FR (ok_aload_n hM 2 dL_law_1777 rfl),
    ok_lM hM (ctX7_textLength l) gL_law_X7_textLength rfl rfl rfl (by decide +kernel) (by decide) dL_law_1778,
    ok_FR (ok_icmp_eq hM 1786 dL_law_1781 (by decide)),
    ok_iconst hM dL_law_1784 rfl,
    ok_lend hLE dL_law_1785,
    trivial⟩
theorem case_31 {X : gX} {l : Launch} {b Ls : Nat} {xs : Nat → Int32} (h : lawX X l b Ls xs) {j : Nat} (hc : cutOK X [(1786, lwK, lwQ j)]) {vs : List Value} {es : List gE} {k n : Nat} (hp : lwP Ls j vs es k n) : G X 1773 (lwK.zip vs) [] es k n := by
  obtain ⟨c, wy, f, g, E, th, hj, hLs, hinv, hmw, rfl, rfl, hk, hn⟩ := hp
  refine wr_ok (kq_31 h) hc 9 1773 _ _ _ _ _ ?_
  refine ⟨⟨by omega, by omega⟩, c, wy, f, g, _, rfl, ?_⟩
  refine ⟨c, wy, rfl, hinv, rfl, fun wy' => ?_⟩
  refine ⟨c, wy', rfl, ?_⟩
  refine ⟨⟨by omega, by omega⟩, c, wy', f, g, E, rfl, ⟨c, th, hmw⟩, ?_⟩
  refine ⟨c, th, rfl, hinv, hmw, fun E' hE' => ?_⟩
  refine ⟨⟨c, _, hE'⟩, rfl, ?_⟩
  exact ⟨fun _ => ⟨c, wy', f, g, E', _, hinv, hE', rfl, rfl, by omega, by omega⟩, fun z => absurd rfl z⟩
end LCS

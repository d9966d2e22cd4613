/-! The law's helper on a way that is moved. -/
section LH2
/-- a head that is come to once -/
theorem g_cut {X : gX} {cs : List gC} {P : Prop} (head : Nat) (keep : List Nat) (I : List Value → List gE → Nat → Nat → Prop) (hc : cutOK X cs) (step : ∀ vs es k n, I vs es k n → G X head (keep.zip vs) [] es k n) (kk : cutOK X ((head, keep, I) :: cs) → P) : P := kk (fun c hm vs es k n h => by
  rcases List.mem_cons.mp hm with rfl | hm
  · exact step vs es k n h
  · exact hc c hm vs es k n h)
abbrev a8 (f : Nat → Int32) : gE := .inl (0, 8, .inl f)
abbrev a4 (f : Nat → Int32) : gE := .inl (0, 4, .inl f)
/-- what mvs says of a way that is moved -/
def mvF (v : gV) (w d r : Nat) : Prop := mvW (lfv v) v = some w ∧ w < 8 ∧ d < 4 ∧ r < 4 ∧ ¬ d = r ∧ vOw v w = nI d ∧ vOw (mvV (lfv v) v) = upd (vOw v) w (nI r) ∧ sumI (mxD (lfv (mvV (lfv v) v)) (mvV (lfv v) v)) 4 = sumI (mxD (lfv v) v) 4 - nI 1 ∧ tgV (mvV (lfv v) v) d ≤ fOwn (vOw (mvV (lfv v) v)) (nI d) ∧ fOwn (vOw (mvV (lfv v) v)) (nI r) ≤ tgV (mvV (lfv v) v) r
abbrev chG (v : gV) (w r : Nat) : Nat → Bool := fun k => decide (¬ upd (vOw v) w (nI r) k = vOw v k)
def s_moves : gHS := fun av v F => ∃ B : Nat, av = [.ref 0] ∧ pV v B ∧ F (nI 1) (mvV (lfv v) v)
def rmL_moves : Room := { frames := 10, cells := 60, slots := 400, locals := 174 }
def pL_moves (K : gK) : List (Nat × gO) := [(0, oFR 0 (oALoad 0)), (1, oPV 60 400 0 p_movesLeft), (4, oIStore 7 1), (5, oFR 0 (oALoad 0)), (6, oPS 60 400 4 24 1 s_all), (9, oIStore 7 2), (10, oConst (nI 8)), (12, oFR 0 (oMNew 60 400)), (14, oAStore 7 3), (15, oConst (nI 0)), (16, oFR 0 (oIStore 7 4)), (18, oFR 0 (oILoad 4)), (20, oConst (nI 8)), (22, oICmp_ge 41), (25, oALoad 3), (26, oILoad 4), (28, oALoad 0), (29, oILoad 4), (31, oPX 60 400 1 6 1 p_owner), (34, oMSt), (35, oIInc 7 4 (nI 1)), (38, oGoto 18), (41, oFR 0 (oALoad 0)), (42, oPV 60 400 0 p_moveWay), (45, oIStore 7 4), (47, oFR 0 (oILoad 4)), (49, oIf_ge 68), (52, oILoad 1), (53, oIf_ne 66), (56, oILoad 4), (58, oConst (-1)), (59, oICmp_ne 66), (62, oConst (nI 1)), (63, oGoto 67), (66, oConst (nI 0)), (67, oPRetZ K 60 400), (68, oConst (nI 0)), (69, oIStore 7 5), (71, oConst (nI 0)), (72, oFR 0 (oIStore 7 6)), (74, oFR 0 (oILoad 6)), (76, oConst (nI 8)), (78, oICmp_ge 110), (81, oILoad 5), (83, oALoad 0), (84, oILoad 6), (86, oPX 60 400 1 6 1 p_owner), (89, oALoad 3), (90, oILoad 6), (92, oMLd), (93, oICmp_ne 100), (96, oConst (nI 0)), (97, oGoto 101), (100, oConst (nI 1)), (101, oAdd), (102, oIStore 7 5), (104, oFR 0 (oIInc 7 6 (nI 1))), (107, oGoto 74), (110, oFR 0 (oILoad 5)), (112, oConst (nI 1)), (113, oICmp_ne 193), (116, oALoad 0), (117, oILoad 4), (119, oPX 60 400 1 6 1 p_owner), (122, oALoad 3), (123, oILoad 4), (125, oMLd), (126, oICmp_eq 193), (129, oALoad 0), (130, oPV 60 400 0 p_movesLeft), (133, oILoad 1), (134, oConst (nI 1)), (135, oSub), (136, oICmp_ne 193), (139, oALoad 0), (140, oPS 60 400 4 24 1 s_all), (143, oILoad 2), (144, oICmp_ne 193), (147, oALoad 0), (148, oALoad 3), (149, oILoad 4), (151, oMLd), (152, oPX 60 400 1 6 1 p_waysOf), (155, oALoad 0), (156, oALoad 3), (157, oILoad 4), (159, oMLd), (160, oPX 60 400 1 6 1 p_target), (163, oICmp_lt 193), (166, oALoad 0), (167, oALoad 0), (168, oILoad 4), (170, oPX 60 400 1 6 1 p_owner), (173, oPX 60 400 1 6 1 p_waysOf), (176, oALoad 0), (177, oALoad 0), (178, oILoad 4), (180, oPX 60 400 1 6 1 p_owner), (183, oPX 60 400 1 6 1 p_target), (186, oICmp_gt 193), (189, oConst (nI 1)), (190, oGoto 194), (193, oConst (nI 0)), (194, oPRetZ K 60 400)]
set_option maxRecDepth 100000 in
theorem kL_moves {X : gX} {l : Launch} (hl : l.stackTraces = false) (hM : gM X l cL_moves RL wsL_moves rmL_moves) {K : gK} (hE : gR X K 60 400 (some .boolean)) (hA0 : gN0 X 99) (hnL : X.2.2.2.2.2.2.2.2.2.2.2.2.2.2.2.2 = 7) : okL X (pL_moves K) := by
  obtain ⟨p, l1, e, R, s, m, args, below, meth, c, D, cA, A, ag, ad0, Q, nL⟩ := X
  cases hnL
  refine ⟨ok_FR (ok_aload_n hM 0 dL_moves_0 rfl),
    ok_PV hM (cx_movesLeft l) gL_moves_X6_movesLeft rfl rfl rfl (by decide +kernel) (by decide) dL_moves_1,
    ok_istore_n hM 1 dL_moves_4 rfl,
    ok_FR (ok_aload_n hM 0 dL_moves_5 rfl),
    ok_PS hM (ctL_all l hl) gL_moves_L_all rfl rfl rfl (by decide +kernel) (by decide) dL_moves_6,
    ok_istore_n hM 2 dL_moves_9 rfl,
    ok_bipush hM dL_moves_10 rfl,
    ok_FR (ok_MNew (ok_newa0 hM hA0 (List.mem_of_getElem? (i := 1) rfl) dL_moves_12)),
    ok_astore_n hM 3 dL_moves_14 rfl,
    ok_iconst hM dL_moves_15 rfl,
    ok_FR (ok_istore hM 4 dL_moves_16),
    ok_FR (ok_iload hM 4 dL_moves_18),
    ok_bipush hM dL_moves_20 rfl,
    ok_icmp_ge hM 41 dL_moves_22 (by decide),
    ok_aload_n hM 3 dL_moves_25 rfl,
    ok_iload hM 4 dL_moves_26,
    ok_aload_n hM 0 dL_moves_28 rfl,
    ok_iload hM 4 dL_moves_29,
    ok_PX hM (cx_owner l hl) gL_moves_X6_owner rfl rfl rfl (by decide +kernel) (by decide) dL_moves_31,
    ok_MSt (ok_iast hM dL_moves_34),
    ok_iinc hM 4 dL_moves_35 rfl,
    ok_goto hM 18 dL_moves_38 (by decide),
    ok_FR (ok_aload_n hM 0 dL_moves_41 rfl),
    ok_PV hM (cx_moveWay l) gL_moves_X6_moveWay rfl rfl rfl (by decide +kernel) (by decide) dL_moves_42,
    ok_istore hM 4 dL_moves_45,
    ok_FR (ok_iload hM 4 dL_moves_47),
    ok_if_ge hM 68 dL_moves_49 (by decide),
    ok_iload_n hM 1 dL_moves_52 rfl,
    ok_if_ne hM 66 dL_moves_53 (by decide),
    ok_iload hM 4 dL_moves_56,
    ok_iconst hM dL_moves_58 rfl,
    ok_icmp_ne hM 66 dL_moves_59 (by decide),
    ok_iconst hM dL_moves_62 rfl,
    ok_goto hM 67 dL_moves_63 (by decide),
    ok_iconst hM dL_moves_66 rfl,
    ok_PRetZ hM hE dL_moves_67,
    ok_iconst hM dL_moves_68 rfl,
    ok_istore hM 5 dL_moves_69,
    ok_iconst hM dL_moves_71 rfl,
    ok_FR (ok_istore hM 6 dL_moves_72),
    ok_FR (ok_iload hM 6 dL_moves_74),
    ok_bipush hM dL_moves_76 rfl,
    ok_icmp_ge hM 110 dL_moves_78 (by decide),
    ok_iload hM 5 dL_moves_81,
    ok_aload_n hM 0 dL_moves_83 rfl,
    ok_iload hM 6 dL_moves_84,
    ok_PX hM (cx_owner l hl) gL_moves_X6_owner rfl rfl rfl (by decide +kernel) (by decide) dL_moves_86,
    ok_aload_n hM 3 dL_moves_89 rfl,
    ok_iload hM 6 dL_moves_90,
    ok_MLd (ok_iald hM dL_moves_92),
    ok_icmp_ne hM 100 dL_moves_93 (by decide),
    ok_iconst hM dL_moves_96 rfl,
    ok_goto hM 101 dL_moves_97 (by decide),
    ok_iconst hM dL_moves_100 rfl,
    ok_iadd hM dL_moves_101,
    ok_istore hM 5 dL_moves_102,
    ok_FR (ok_iinc hM 6 dL_moves_104 rfl),
    ok_goto hM 74 dL_moves_107 (by decide),
    ok_FR (ok_iload hM 5 dL_moves_110),
    ok_iconst hM dL_moves_112 rfl,
    ok_icmp_ne hM 193 dL_moves_113 (by decide),
    ok_aload_n hM 0 dL_moves_116 rfl,
    ok_iload hM 4 dL_moves_117,
    ok_PX hM (cx_owner l hl) gL_moves_X6_owner rfl rfl rfl (by decide +kernel) (by decide) dL_moves_119,
    ok_aload_n hM 3 dL_moves_122 rfl,
    ok_iload hM 4 dL_moves_123,
    ok_MLd (ok_iald hM dL_moves_125),
    ok_icmp_eq hM 193 dL_moves_126 (by decide),
    ok_aload_n hM 0 dL_moves_129 rfl,
    ok_PV hM (cx_movesLeft l) gL_moves_X6_movesLeft rfl rfl rfl (by decide +kernel) (by decide) dL_moves_130,
    ok_iload_n hM 1 dL_moves_133 rfl,
    ok_iconst hM dL_moves_134 rfl,
    ok_isub hM dL_moves_135,
    ok_icmp_ne hM 193 dL_moves_136 (by decide),
    ok_aload_n hM 0 dL_moves_139 rfl,
    ok_PS hM (ctL_all l hl) gL_moves_L_all rfl rfl rfl (by decide +kernel) (by decide) dL_moves_140,
    ok_iload_n hM 2 dL_moves_143 rfl,
    ok_icmp_ne hM 193 dL_moves_144 (by decide),
    ok_aload_n hM 0 dL_moves_147 rfl,
    ok_aload_n hM 3 dL_moves_148 rfl,
    ok_iload hM 4 dL_moves_149,
    ok_MLd (ok_iald hM dL_moves_151),
    ok_PX hM (cx_waysOf l hl) gL_moves_X6_waysOf rfl rfl rfl (by decide +kernel) (by decide) dL_moves_152,
    ok_aload_n hM 0 dL_moves_155 rfl,
    ok_aload_n hM 3 dL_moves_156 rfl,
    ok_iload hM 4 dL_moves_157,
    ok_MLd (ok_iald hM dL_moves_159),
    ok_PX hM (cx_target l hl) gL_moves_X6_target rfl rfl rfl (by decide +kernel) (by decide) dL_moves_160,
    ok_icmp_lt hM 193 dL_moves_163 (by decide),
    ok_aload_n hM 0 dL_moves_166 rfl,
    ok_aload_n hM 0 dL_moves_167 rfl,
    ok_iload hM 4 dL_moves_168,
    ok_PX hM (cx_owner l hl) gL_moves_X6_owner rfl rfl rfl (by decide +kernel) (by decide) dL_moves_170,
    ok_PX hM (cx_waysOf l hl) gL_moves_X6_waysOf rfl rfl rfl (by decide +kernel) (by decide) dL_moves_173,
    ok_aload_n hM 0 dL_moves_176 rfl,
    ok_aload_n hM 0 dL_moves_177 rfl,
    ok_iload hM 4 dL_moves_178,
    ok_PX hM (cx_owner l hl) gL_moves_X6_owner rfl rfl rfl (by decide +kernel) (by decide) dL_moves_180,
    ok_PX hM (cx_target l hl) gL_moves_X6_target rfl rfl rfl (by decide +kernel) (by decide) dL_moves_183,
    ok_icmp_gt hM 193 dL_moves_186 (by decide),
    ok_iconst hM dL_moves_189 rfl,
    ok_goto hM 194 dL_moves_190 (by decide),
    ok_iconst hM dL_moves_193 rfl,
    ok_PRetZ hM hE dL_moves_194,
    trivial⟩
set_option maxRecDepth 100000 in
theorem ctA_moves (l : Launch) (hl : l.stackTraces = false) : Ct l yL_moves wsL_moves rmL_moves 60 400 true (hS s_moves) := by
  refine ct_of (own := RL) (cc := cL_moves) (maxL := 7) (ret := (some .boolean)) (by decide) rfl rfl (by rintro _ _ _ ⟨v, F, hPW, ⟨B, rfl, hV, hF⟩, hK⟩; exact Nat.le_of_ble_eq_true rfl) ?_
  intro X av es K hM hE hag _ hnL hsp
  obtain ⟨v, F, hPW, ⟨B, rfl, hV, hF⟩, hK⟩ := hsp
  have hA0 : gN0 X 99 := gN0_of (fun i hi ha => hag i (by rw [PW_len hPW]; exact hi) ha)
  have hf := kL_moves hl hM hE hA0 hnL
  rw [← List.append_nil es]
  have hk := hV.1
  have hH := pV_H hV
  have hV' := pV_mv hV (lfv v)
  have hAL : nE (vHd (mvV (lfv v) v)) = nE (vHd v) := rfl
  obtain ⟨v', hv'⟩ : ∃ v', mvV (lfv v) v = v' := ⟨_, rfl⟩
  obtain ⟨ml, hml⟩ : ∃ ml, sumI (mxD (lfv v) v) 4 = ml := ⟨_, rfl⟩
  rw [hv'] at hV' hAL hF
  have hk' := hV'.1
  have hH' := pV_H hV'
  refine g_with (X := X) 74 [0, 1, 2, 3, 4, 5, 6] (fun μ vs es k n => ∃ (i : Nat) (C : List gE) (w d r : Nat) (f : Nat → Int32), μ = 8 - i ∧ i ≤ 8 ∧ PW v' C ∧ mvF v w d r ∧ (∀ j, j < 8 → f j = vOw v j) ∧ vs = [.ref 0, .int ml, .int (nI (nE (vHd v))), .ref 99, .int (nI w), .int (nI (cnt (chG v w r) i)), .int (nI i)] ∧ es = C ++ [a8 f] ∧ k ≤ 13 + i ∧ n ≤ 80 + 6 * i) cut_nil (fun μ hc vs es k n hI => ?_) (fun hc74 => ?_)
  · obtain ⟨i, C, w, d, r, f, rfl, hi, hPW, hm, hfo, rfl, rfl, hkk, hnn⟩ := hI
    obtain ⟨m1, m2, m3, m4, m5, m6, m7, m8, m9, m10⟩ := hm
    rw [hv'] at m7 m8 m9 m10
    rw [hml] at m8
    refine g_go hf hc 30 ?_
    refine ⟨fun h => ?_, fun h => ?_⟩
    · have h8 : i = 8 := by
        rw [nI_leI (by decide) (by omega)] at h
        omega
      subst h8
      refine ⟨fun q => absurd (congrArg nI (mv_ch m2 m3 m4 m5 m6)) q, fun _ => ?_⟩
      refine ⟨⟨by omega, by omega⟩, v', C, [a8 f], rfl, hPW, ⟨w, rfl, m2, fun C hPW => ?_⟩⟩
      refine ⟨v', C, [a8 f], 8, f, w, rfl, hPW, rfl, by omega, rfl, m2, ?_⟩
      have e1 : vOw v' w = nI r := by rw [m7, pk_us]
      have e2 : f w = nI d := by rw [hfo w m2, m6]
      refine ⟨fun q => absurd (nI_inj ((e2.symm.trans q.symm).trans e1) (by omega) (by omega)) m5, fun _ => ?_⟩
      refine ⟨⟨by omega, by omega⟩, v', C, [a8 f], rfl, hPW, ⟨rfl, hk', fun C hPW => ?_⟩⟩
      refine ⟨fun q => absurd m8 q, fun _ => ?_⟩
      refine ⟨⟨by omega, by omega⟩, v', C, [a8 f], rfl, hPW, ⟨rfl, hH', fun C hPW => ?_⟩⟩
      refine ⟨fun q => absurd (congrArg nI hAL) q, fun _ => ?_⟩
      refine ⟨v', C, [a8 f], 8, f, w, rfl, hPW, rfl, by omega, rfl, m2, ?_⟩
      refine ⟨⟨by omega, by omega⟩, v', C, [a8 f], rfl, hPW, ⟨d, by rw [e2], m3, fun C hPW => ?_⟩⟩
      refine ⟨v', C, [a8 f], 8, f, w, rfl, hPW, rfl, by omega, rfl, m2, ?_⟩
      refine ⟨⟨by omega, by omega⟩, v', C, [a8 f], rfl, hPW, ⟨d, by rw [e2], m3, hk', fun C hPW => ?_⟩⟩
      have t1 := tgV_le hV' m3
      have t2 := tgV_le hV' m4
      have o1 := fOwn_le (vOw v') (nI d)
      have o2 := fOwn_le (vOw v') (nI r)
      refine ⟨fun q => ?_, fun _ => ?_⟩
      · have q : nI (fOwn (vOw v') (nI d)) < nI (tgV v' d) := q
        rw [nI_ltI (by omega) (by omega)] at q
        omega
      refine ⟨⟨by omega, by omega⟩, v', C, [a8 f], rfl, hPW, ⟨w, rfl, m2, fun C hPW => ?_⟩⟩
      refine ⟨⟨by omega, by omega⟩, v', C, [a8 f], rfl, hPW, ⟨r, by rw [e1], m4, fun C hPW => ?_⟩⟩
      refine ⟨⟨by omega, by omega⟩, v', C, [a8 f], rfl, hPW, ⟨w, rfl, m2, fun C hPW => ?_⟩⟩
      refine ⟨⟨by omega, by omega⟩, v', C, [a8 f], rfl, hPW, ⟨r, by rw [e1], m4, hk', fun C hPW => ?_⟩⟩
      refine ⟨fun q => ?_, fun _ => ?_⟩
      · have q : nI (tgV v' r) < nI (fOwn (vOw v') (nI r)) := q
        rw [nI_ltI (by omega) (by omega)] at q
        omega
      exact ⟨⟨by omega, by omega⟩, Or.inr (by decide), v', C, [a8 f], rfl, hPW, hK _ _ _ hF hPW⟩
    · rw [nI_leI (by decide) (by omega)] at h
      refine ⟨⟨by omega, by omega⟩, v', C, [a8 f], rfl, hPW, ⟨i, rfl, by omega, fun C hPW => ?_⟩⟩
      refine ⟨v', C, [a8 f], 8, f, i, rfl, hPW, rfl, by omega, rfl, by omega, ?_⟩
      refine ⟨fun q => ?_, fun q => ?_⟩
      · have hp : chG v w r i = true := by
          rw [m7, hfo i (by omega)] at q
          exact decide_eq_true q
        exact ⟨8 - (i + 1), by omega, i + 1, C, w, d, r, f, rfl, by omega, hPW, ⟨m1, m2, m3, m4, m5, m6, by rw [hv']; exact m7, by rw [hv', hml]; exact m8, by rw [hv']; exact m9, by rw [hv']; exact m10⟩, hfo, by rw [nI_add, nI_add, cnt_t hp], rfl, by omega, by omega⟩
      · have hp : ¬ chG v w r i = true := by
          rw [m7, hfo i (by omega)] at q
          exact fun z => of_decide_eq_true z q
        exact ⟨8 - (i + 1), by omega, i + 1, C, w, d, r, f, rfl, by omega, hPW, ⟨m1, m2, m3, m4, m5, m6, by rw [hv']; exact m7, by rw [hv', hml]; exact m8, by rw [hv']; exact m9, by rw [hv']; exact m10⟩, hfo, by rw [nI_add, nI_add, cnt_f hp]; rfl, rfl, by omega, by omega⟩
  refine g_cut (X := X) 41 [0, 1, 2, 3] (fun vs es k n => ∃ (C : List gE) (f : Nat → Int32), PW v C ∧ (∀ j, j < 8 → f j = vOw v j) ∧ vs = [.ref 0, .int ml, .int (nI (nE (vHd v))), .ref 99] ∧ es = C ++ [a8 f] ∧ k ≤ 13 ∧ n ≤ 80) hc74 (fun vs es k n hI => ?_) (fun hc41 => ?_)
  · obtain ⟨C, f, hPW, hfo, rfl, rfl, hkk, hnn⟩ := hI
    have hms := mvs hV
    rcases hms with ⟨hn, hz⟩ | ⟨w, d, r, hm⟩
    · refine g_go hf hc74 30 ?_
      refine ⟨⟨by omega, by omega⟩, v, C, [a8 f], rfl, hPW, ⟨rfl, hk, fun C hPW => ?_⟩⟩
      rw [hv'] at hPW
      rw [hn]
      refine ⟨fun q => absurd q (by decide), fun _ => ?_⟩
      refine ⟨fun q => absurd ((hml.symm.trans hz).trans nI_0) q, fun _ => ?_⟩
      refine ⟨fun q => absurd rfl q, fun _ => ?_⟩
      exact ⟨⟨by omega, by omega⟩, Or.inr (by decide), v', C, [a8 f], rfl, hPW, hK _ _ _ hF hPW⟩
    · have hw8 := hm.2.1
      refine g_go hf hc74 30 ?_
      refine ⟨⟨by omega, by omega⟩, v, C, [a8 f], rfl, hPW, ⟨rfl, hk, fun C hPW => ?_⟩⟩
      rw [hv'] at hPW
      rw [hm.1]
      refine ⟨fun _ => ?_, fun q => absurd (nI_pos' (by omega)) q⟩
      exact ⟨8, 0, C, w, d, r, f, rfl, by omega, hPW, hm, hfo, rfl, rfl, by omega, by omega⟩
  refine g_with (X := X) 18 [0, 1, 2, 3, 4] (fun μ vs es k n => ∃ (i : Nat) (C : List gE) (f : Nat → Int32), μ = 8 - i ∧ i ≤ 8 ∧ PW v C ∧ (∀ j, j < i → f j = vOw v j) ∧ vs = [.ref 0, .int ml, .int (nI (nE (vHd v))), .ref 99, .int (nI i)] ∧ es = C ++ [a8 f] ∧ k ≤ 5 + i ∧ n ≤ 32 + 6 * i) hc41 (fun μ hc vs es k n hI => ?_) (fun hc => ?_)
  · obtain ⟨i, C, f, rfl, hi, hPW, hfo, rfl, rfl, hkk, hnn⟩ := hI
    refine g_go hf hc 30 ?_
    refine ⟨fun h => ?_, fun h => ?_⟩
    · have h8 : i = 8 := by
        rw [nI_leI (by decide) (by omega)] at h
        omega
      subst h8
      exact ⟨C, f, hPW, hfo, rfl, rfl, by omega, by omega⟩
    · rw [nI_leI (by decide) (by omega)] at h
      refine ⟨⟨by omega, by omega⟩, v, C, [a8 f], rfl, hPW, ⟨i, rfl, by omega, fun C hPW => ?_⟩⟩
      refine ⟨v, C, [a8 f], 8, f, i, rfl, hPW, rfl, by omega, rfl, by omega, ?_⟩
      refine ⟨8 - (i + 1), by omega, i + 1, C, upd f i (vOw v i), rfl, by omega, hPW, fun j hj => ?_, by rw [nI_add], rfl, by omega, by omega⟩
      by_cases c : j = i
      · rw [c, pk_us]
      · rw [pk_un c]
        exact hfo j (by omega)
  · refine wr_ok hf hc 30 0 _ _ _ _ _ ?_
    refine ⟨⟨by omega, by omega⟩, v, es, [], rfl, hPW, ⟨rfl, hk, fun C hPW => ?_⟩⟩
    rw [hml]
    refine ⟨⟨by omega, by omega⟩, v, C, [], rfl, hPW, ⟨rfl, hH, fun C hPW => ?_⟩⟩
    refine ⟨v, C, [], 8, 99, rfl, hPW, rfl, rfl, by omega, by omega, by omega, ?_⟩
    exact ⟨8, 0, C, fun _ => 0, rfl, by omega, hPW, fun j hj => absurd hj (by omega), rfl, rfl, by omega, by omega⟩
theorem ctL_moves (l : Launch) (hl : l.stackTraces = false) : Ct l yL_moves wsL_moves rmL_moves 60 400 false (hS s_moves) := ct_al (ctA_moves l hl)
end LH2

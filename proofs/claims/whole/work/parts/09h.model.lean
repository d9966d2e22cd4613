/-! PartitionedCacheModel: some of the rest given. -/
section MM8
theorem lowR_eq {W : Nat → Nat} (hW : ∀ t, t < 4 → W t ≤ 8) : ∀ n, n < 4 → lowR (nF W) n = lowI W n
  | 0, _ => rfl
  | n + 1, h => by
    have ih := lowR_eq hW n (by omega)
    have h1 := hW (n + 1) h
    have h2 := lowI_le W n
    have h3 := hW (lowI W n) (by omega)
    unfold lowR lowI
    rw [ih]
    have e1 : nF W (n + 1) < nF W (lowI W n) ↔ W (n + 1) < W (lowI W n) := nI_ltI (by omega) (by omega)
    simp only [e1]
theorem g_acc (ga : Nat → Int32) (t w d : Nat) : (sumI (fun p => ga (t * 8 + p)) (w + d) - sumI (fun p => ga (t * 8 + p)) w) + ga (t * 8 + w + (d + 1) - 1) = sumI (fun p => ga (t * 8 + p)) (w + (d + 1)) - sumI (fun p => ga (t * 8 + p)) w := by
  have e1 : sumI (fun p => ga (t * 8 + p)) (w + (d + 1)) = sumI (fun p => ga (t * 8 + p)) (w + d) + ga (t * 8 + (w + d)) := rfl
  rw [e1, show t * 8 + w + (d + 1) - 1 = t * 8 + (w + d) by omega, Int32.sub_eq_add_neg, Int32.sub_eq_add_neg, Int32.add_assoc, Int32.add_assoc, Int32.add_comm (-_) _]
def sX7_giveSome : gS := fun av es K => ∃ x q W R P S hs bf st ln at0 nu th r, av = [.ref 0, .int x] ∧ x = nI q ∧ 1 ≤ q ∧ q ≤ 8 ∧ (∀ t, t < 4 → W t ≤ 8) ∧ es = mdW R P S hs (nF W) bf st ln at0 nu th r ∧ K (some (.int (nI (gBest (gaR R) W q).2.1))) (mdW R P S hs (nF (gNew W (gTen W (gBest (gaR R) W q)) (gBest (gaR R) W q).2.1)) bf st ln at0 nu th r)
def rmX7_giveSome : Room := { frames := 1, cells := 0, slots := 0, locals := 24 }
def pX7_giveSome (K : gK) : List (Nat × gO) := [(0, oConst (-1)), (1, oFR 7 (oIStore 9 2)), (2, oConst (nI 0)), (3, oFR 7 (oIStore 9 3)), (4, oConst (nI 1)), (5, oFR 7 (oIStore 9 4)), (7, oConst (nI 0)), (8, oFR 7 (oIStore 9 5)), (10, oFR 7 (oILoad 5)), (12, oConst (nI 4)), (13, oICmp_ge 141), (16, oConst (nI 1)), (17, oIStore 9 6), (19, oFR 7 (oILoad 6)), (21, oILoad 1), (22, oICmp_gt 135), (25, oALoad 0), (26, oGet 7 5), (29, oILoad 5), (31, oIALd 0), (32, oILoad 6), (34, oAdd), (35, oConst (nI 8)), (37, oICmp_gt 135), (40, oALoad 0), (41, oILoad 5), (43, oALoad 0), (44, oGet 7 5), (47, oILoad 5), (49, oIALd 0), (50, oILoad 6), (52, oAdd), (53, oCallV0 0 0 7 2 sX7_gained), (56, oFR 7 (oALoad 0)), (57, oILoad 5), (59, oALoad 0), (60, oGet 7 5), (63, oILoad 5), (65, oIALd 0), (66, oCallV0 0 0 7 2 sX7_gained), (69, oSub), (70, oFR 7 (oIStore 9 7)), (72, oFR 7 (oILoad 7)), (74, oILoad 4), (76, oMul), (77, oILoad 3), (78, oILoad 6), (80, oMul), (81, oICmp_le 88), (84, oConst (nI 1)), (85, oGoto 89), (88, oConst (nI 0)), (89, oIStore 9 8), (91, oFR 7 (oILoad 8)), (93, oIf_eq 101), (96, oILoad 7), (98, oGoto 102), (101, oILoad 3), (102, oIStore 9 3), (103, oFR 7 (oILoad 8)), (105, oIf_eq 113), (108, oILoad 6), (110, oGoto 115), (113, oILoad 4), (115, oIStore 9 4), (117, oFR 7 (oILoad 8)), (119, oIf_eq 127), (122, oILoad 5), (124, oGoto 128), (127, oILoad 2), (128, oIStore 9 2), (129, oFR 7 (oIInc 9 6 (nI 1))), (132, oGoto 19), (135, oFR 7 (oIInc 9 5 (nI 1))), (138, oGoto 10), (141, oFR 7 (oILoad 2)), (142, oConst (-1)), (143, oICmp_ne 161), (146, oALoad 0), (147, oGet 7 5), (150, oALoad 0), (151, oCallV0 0 0 7 0 sX7_lowestTarget), (154, oFR 7 (oDup2)), (155, oIALd 0), (156, oConst (nI 1)), (157, oAdd), (158, oIASt), (159, oConst (nI 1)), (160, oFR 7 (oRet K 0 0)), (161, oALoad 0), (162, oGet 7 5), (165, oILoad 2), (166, oDup2), (167, oIALd 0), (168, oILoad 4), (170, oAdd), (171, oIASt), (172, oFR 7 (oILoad 4)), (174, oRet K 0 0)]
set_option maxRecDepth 100000 in
theorem kX7_giveSome {X : gX} {l : Launch} (hM : gM X l cX7_giveSome RX7 wsX7_giveSome rmX7_giveSome) {K : gK} (hE : gR X K 0 0 (some .int)) (hnL : X.2.2.2.2.2.2.2.2.2.2.2.2.2.2.2.2 = 9) : okL X (pX7_giveSome K) := by
  obtain ⟨p, l1, e, R, s, m, args, below, meth, c, D, cA, A, ag, ad0, Q, nL⟩ := X
  cases hnL
  refine ⟨ok_iconst hM dX7_giveSome_0 rfl,
    ok_FR (ok_istore_n hM 2 dX7_giveSome_1 rfl),
    ok_iconst hM dX7_giveSome_2 rfl,
    ok_FR (ok_istore_n hM 3 dX7_giveSome_3 rfl),
    ok_iconst hM dX7_giveSome_4 rfl,
    ok_FR (ok_istore hM 4 dX7_giveSome_5),
    ok_iconst hM dX7_giveSome_7 rfl,
    ok_FR (ok_istore hM 5 dX7_giveSome_8),
    ok_FR (ok_iload hM 5 dX7_giveSome_10),
    ok_iconst hM dX7_giveSome_12 rfl,
    ok_icmp_ge hM 141 dX7_giveSome_13 (by decide),
    ok_iconst hM dX7_giveSome_16 rfl,
    ok_istore hM 6 dX7_giveSome_17,
    ok_FR (ok_iload hM 6 dX7_giveSome_19),
    ok_iload_n hM 1 dX7_giveSome_21 rfl,
    ok_icmp_gt hM 135 dX7_giveSome_22 (by decide),
    ok_aload_n hM 0 dX7_giveSome_25 rfl,
    ok_get (C := RX7) (T := TX7) (Nf := 11) hM (fun _ h => List.mem_cons_of_mem _ (List.mem_append_right _ h)) rfl 5 (by decide) (List.mem_of_getElem? (i := 1) rfl) rfl dX7_giveSome_26,
    ok_iload hM 5 dX7_giveSome_29,
    ok_iald hM dX7_giveSome_31,
    ok_iload hM 6 dX7_giveSome_32,
    ok_iadd hM dX7_giveSome_34,
    ok_bipush hM dX7_giveSome_35 rfl,
    ok_icmp_gt hM 135 dX7_giveSome_37 (by decide),
    ok_aload_n hM 0 dX7_giveSome_40 rfl,
    ok_iload hM 5 dX7_giveSome_41,
    ok_aload_n hM 0 dX7_giveSome_43 rfl,
    ok_get (C := RX7) (T := TX7) (Nf := 11) hM (fun _ h => List.mem_cons_of_mem _ (List.mem_append_right _ h)) rfl 5 (by decide) (List.mem_of_getElem? (i := 1) rfl) rfl dX7_giveSome_44,
    ok_iload hM 5 dX7_giveSome_47,
    ok_iald hM dX7_giveSome_49,
    ok_iload hM 6 dX7_giveSome_50,
    ok_iadd hM dX7_giveSome_52,
    ok_callV0 hM (ctX7_gained l) rfl gX7_giveSome_X7_gained rfl rfl rfl (by decide +kernel) (by decide) dX7_giveSome_53,
    ok_FR (ok_aload_n hM 0 dX7_giveSome_56 rfl),
    ok_iload hM 5 dX7_giveSome_57,
    ok_aload_n hM 0 dX7_giveSome_59 rfl,
    ok_get (C := RX7) (T := TX7) (Nf := 11) hM (fun _ h => List.mem_cons_of_mem _ (List.mem_append_right _ h)) rfl 5 (by decide) (List.mem_of_getElem? (i := 1) rfl) rfl dX7_giveSome_60,
    ok_iload hM 5 dX7_giveSome_63,
    ok_iald hM dX7_giveSome_65,
    ok_callV0 hM (ctX7_gained l) rfl gX7_giveSome_X7_gained rfl rfl rfl (by decide +kernel) (by decide) dX7_giveSome_66,
    ok_isub hM dX7_giveSome_69,
    ok_FR (ok_istore hM 7 dX7_giveSome_70),
    ok_FR (ok_iload hM 7 dX7_giveSome_72),
    ok_iload hM 4 dX7_giveSome_74,
    ok_imul hM dX7_giveSome_76,
    ok_iload_n hM 3 dX7_giveSome_77 rfl,
    ok_iload hM 6 dX7_giveSome_78,
    ok_imul hM dX7_giveSome_80,
    ok_icmp_le hM 88 dX7_giveSome_81 (by decide),
    ok_iconst hM dX7_giveSome_84 rfl,
    ok_goto hM 89 dX7_giveSome_85 (by decide),
    ok_iconst hM dX7_giveSome_88 rfl,
    ok_istore hM 8 dX7_giveSome_89,
    ok_FR (ok_iload hM 8 dX7_giveSome_91),
    ok_if_eq hM 101 dX7_giveSome_93 (by decide),
    ok_iload hM 7 dX7_giveSome_96,
    ok_goto hM 102 dX7_giveSome_98 (by decide),
    ok_iload_n hM 3 dX7_giveSome_101 rfl,
    ok_istore_n hM 3 dX7_giveSome_102 rfl,
    ok_FR (ok_iload hM 8 dX7_giveSome_103),
    ok_if_eq hM 113 dX7_giveSome_105 (by decide),
    ok_iload hM 6 dX7_giveSome_108,
    ok_goto hM 115 dX7_giveSome_110 (by decide),
    ok_iload hM 4 dX7_giveSome_113,
    ok_istore hM 4 dX7_giveSome_115,
    ok_FR (ok_iload hM 8 dX7_giveSome_117),
    ok_if_eq hM 127 dX7_giveSome_119 (by decide),
    ok_iload hM 5 dX7_giveSome_122,
    ok_goto hM 128 dX7_giveSome_124 (by decide),
    ok_iload_n hM 2 dX7_giveSome_127 rfl,
    ok_istore_n hM 2 dX7_giveSome_128 rfl,
    ok_FR (ok_iinc hM 6 dX7_giveSome_129 rfl),
    ok_goto hM 19 dX7_giveSome_132 (by decide),
    ok_FR (ok_iinc hM 5 dX7_giveSome_135 rfl),
    ok_goto hM 10 dX7_giveSome_138 (by decide),
    ok_FR (ok_iload_n hM 2 dX7_giveSome_141 rfl),
    ok_iconst hM dX7_giveSome_142 rfl,
    ok_icmp_ne hM 161 dX7_giveSome_143 (by decide),
    ok_aload_n hM 0 dX7_giveSome_146 rfl,
    ok_get (C := RX7) (T := TX7) (Nf := 11) hM (fun _ h => List.mem_cons_of_mem _ (List.mem_append_right _ h)) rfl 5 (by decide) (List.mem_of_getElem? (i := 1) rfl) rfl dX7_giveSome_147,
    ok_aload_n hM 0 dX7_giveSome_150 rfl,
    ok_callV0 hM (ctX7_lowestTarget l) rfl gX7_giveSome_X7_lowestTarget rfl rfl rfl (by decide +kernel) (by decide) dX7_giveSome_151,
    ok_FR (ok_dup2 hM dX7_giveSome_154),
    ok_iald hM dX7_giveSome_155,
    ok_iconst hM dX7_giveSome_156 rfl,
    ok_iadd hM dX7_giveSome_157,
    ok_iast hM dX7_giveSome_158,
    ok_iconst hM dX7_giveSome_159 rfl,
    ok_FR (ok_ret hM hE dX7_giveSome_160),
    ok_aload_n hM 0 dX7_giveSome_161 rfl,
    ok_get (C := RX7) (T := TX7) (Nf := 11) hM (fun _ h => List.mem_cons_of_mem _ (List.mem_append_right _ h)) rfl 5 (by decide) (List.mem_of_getElem? (i := 1) rfl) rfl dX7_giveSome_162,
    ok_iload_n hM 2 dX7_giveSome_165 rfl,
    ok_dup2 hM dX7_giveSome_166,
    ok_iald hM dX7_giveSome_167,
    ok_iload hM 4 dX7_giveSome_168,
    ok_iadd hM dX7_giveSome_170,
    ok_iast hM dX7_giveSome_171,
    ok_FR (ok_iload hM 4 dX7_giveSome_172),
    ok_ret hM hE dX7_giveSome_174,
    trivial⟩
set_option maxRecDepth 100000 in
theorem ctX7_giveSome (l : Launch) : Ct l yX7_giveSome wsX7_giveSome rmX7_giveSome 0 0 false sX7_giveSome := by
  refine ct_of (own := RX7) (cc := cX7_giveSome) (maxL := 9) (ret := (some .int)) (by decide) rfl rfl (by rintro _ _ _ ⟨x, q, W, R, P, S, hs, bf, st, ln, at0, nu, th, r, rfl, rfl, hq1, hq8, hW, rfl, hK⟩; exact Nat.le_of_ble_eq_true rfl) ?_
  intro X av es K hM hE hag hin hnL hsp
  obtain ⟨x, q, W, R, P, S, hs, bf, st, ln, at0, nu, th, r, rfl, rfl, hq1, hq8, hW, rfl, hK⟩ := hsp
  have hf := kX7_giveSome hM hE hnL
  have hB := gBest_ok (gaR R) W q
  generalize hres : gBest (gaR R) W q = B at hK hB
  refine g_with (X := X) 10 [0, 1, 2, 3, 4, 5] (fun μ vs es k n => ∃ (t : Nat) (b : gB), μ = 4 - t ∧ t ≤ 4 ∧ gOK W q b ∧ B = gOut (gaR R) W q (4 - t) t b ∧ vs = [.ref 0, .int (nI q), .int (oI b.1), .int b.2.2, .int (nI b.2.1), .int (nI t)] ∧ es = mdW R P S hs (nF W) bf st ln at0 nu th r ∧ k = 0 ∧ n = 0) cut_nil (fun μ hc vs es k n hI => ?_) (fun hc => ?_)
  · obtain ⟨t, b, rfl, ht, hb, hr, rfl, rfl, rfl, rfl⟩ := hI
    refine g_with (X := X) 19 [0, 1, 2, 3, 4, 5, 6] (fun μ' vs es k n => ∃ (d : Nat) (b : gB), μ' = 8 - d ∧ d ≤ 8 ∧ t < 4 ∧ W t + d ≤ 8 ∧ gOK W q b ∧ B = gOut (gaR R) W q (3 - t) (t + 1) (gIn (gaR R) t (W t) q (8 - d) (d + 1) (sumI (fun p => gaR R (t * 8 + p)) (W t + d) - sumI (fun p => gaR R (t * 8 + p)) (W t)) b) ∧ vs = [.ref 0, .int (nI q), .int (oI b.1), .int b.2.2, .int (nI b.2.1), .int (nI t), .int (nI (d + 1))] ∧ es = mdW R P S hs (nF W) bf st ln at0 nu th r ∧ k = 0 ∧ n = 0) hc (fun μ' hc' vs es k n hI => ?_) (fun hc' => ?_)
    · obtain ⟨d, b, rfl, hd, ht4, hwd, hb, hr, rfl, rfl, rfl, rfl⟩ := hI
      have hWt := hW t ht4
      refine g_go hf hc' 5 ?_
      have hout : ¬ (d + 1 ≤ q ∧ W t + (d + 1) ≤ 8) → B = gOut (gaR R) W q (4 - (t + 1)) (t + 1) b := fun hn => by
        rw [hr, show 3 - t = 4 - (t + 1) by omega]
        cases h8 : 8 - d with
        | zero => rfl
        | succ f => rw [gIn, if_neg hn]
      refine ⟨fun h1 => ?_, fun h1 => ?_⟩
      · have h2 : ¬ d + 1 ≤ q := fun z => by
          have : nI (d + 1) ≤ nI q := (nI_leI (by omega) (by omega)).mpr z
          first | exact h1 this | exact absurd this (Int32.not_le.mpr h1)
        exact ⟨4 - (t + 1), by omega, t + 1, b, rfl, by omega, hb, hout (fun z => h2 z.1), by rw [nI_add], rfl, rfl, rfl⟩
      · have h2 : d + 1 ≤ q := by
          have h1 : nI (d + 1) ≤ nI q := by first | exact h1 | exact Int32.not_lt.mp h1
          exact (nI_leI (by omega) (by omega)).mp h1
        refine ⟨t, rfl, ht4, ?_⟩
        have e3 : nF W t + nI (d + 1) = nI (W t + (d + 1)) := nI_add _ _
        refine ⟨fun h3 => ?_, fun h3 => ?_⟩
        · have h4 : ¬ W t + (d + 1) ≤ 8 := fun z => by
            have h5 : nF W t + nI (d + 1) ≤ nI 8 := by rw [e3]; exact (nI_leI (by omega) (by omega)).mpr z
            first | exact h3 h5 | exact absurd h5 (Int32.not_le.mpr h3)
          exact ⟨4 - (t + 1), by omega, t + 1, b, rfl, by omega, hb, hout (fun z => h4 z.2), by rw [nI_add], rfl, rfl, rfl⟩
        · have h4 : W t + (d + 1) ≤ 8 := by
            have h3 : nF W t + nI (d + 1) ≤ nI 8 := by first | exact h3 | exact Int32.not_lt.mp h3
            rw [e3] at h3
            exact (nI_leI (by omega) (by omega)).mp h3
          rw [show 8 - d = (8 - (d + 1)) + 1 by omega, gIn, if_pos ⟨h2, h4⟩, g_acc] at hr
          refine ⟨t, rfl, ht4, ?_⟩
          refine ⟨_, _, t, W t + (d + 1), _, R, _, rfl, rfl, e3, ht4, h4, rfl, ?_⟩
          refine ⟨t, rfl, ht4, ?_⟩
          refine ⟨_, _, t, W t, _, R, _, rfl, rfl, rfl, ht4, hWt, rfl, ?_⟩
          refine ⟨fun h5 => ?_, fun h5 => ?_⟩
          · have h6 : ¬ b.2.2 * nI (d + 1) < (sumI (fun p => gaR R (t * 8 + p)) (W t + (d + 1)) - sumI (fun p => gaR R (t * 8 + p)) (W t)) * nI b.2.1 := by
              first | exact h5 | exact Int32.not_lt.mpr h5
            rw [gTry, if_neg h6] at hr
            refine ⟨fun _ => ?_, fun h => absurd (by decide) h⟩
            refine ⟨fun _ => ?_, fun h => absurd (by decide) h⟩
            refine ⟨fun _ => ?_, fun h => absurd (by decide) h⟩
            exact ⟨8 - (d + 1), by omega, d + 1, b, rfl, by omega, ht4, h4, hb, hr, by rw [nI_add], rfl, rfl, rfl⟩
          · have h6 : b.2.2 * nI (d + 1) < (sumI (fun p => gaR R (t * 8 + p)) (W t + (d + 1)) - sumI (fun p => gaR R (t * 8 + p)) (W t)) * nI b.2.1 := by
              first | exact h5 | exact Int32.not_le.mp h5
            rw [gTry, if_pos h6] at hr
            refine ⟨fun h => absurd h (by decide), fun _ => ?_⟩
            refine ⟨fun h => absurd h (by decide), fun _ => ?_⟩
            refine ⟨fun h => absurd h (by decide), fun _ => ?_⟩
            have hb2 : gOK W q (some t, d + 1, sumI (fun p => gaR R (t * 8 + p)) (W t + (d + 1)) - sumI (fun p => gaR R (t * 8 + p)) (W t)) := ⟨by show 1 ≤ d + 1; omega, by show d + 1 ≤ 8; omega, fun p hp => (by cases hp; exact ⟨ht4, h2, h4⟩), fun hp => (by cases hp)⟩
            exact ⟨8 - (d + 1), by omega, d + 1, _, rfl, by omega, ht4, h4, hb2, hr, by rw [nI_add]; rfl, rfl, rfl, rfl⟩
    · refine g_go hf hc' 5 ?_
      refine ⟨fun h => ?_, fun h => ?_⟩
      · have h4 : t = 4 := by
          rw [nI_leI (by decide) (by omega)] at h
          omega
        subst h4
        have hBb : B = b := hr
        subst hBb
        have hon : oI B.1 = -1 ↔ B.1 = none := oI_ne (fun p hp => by have := (hb.2.2.1 p hp).1; omega)
        refine ⟨fun h5 => ?_, fun h5 => ?_⟩
        · obtain ⟨p, hp⟩ : ∃ p, B.1 = some p := by
            cases hq : B.1 with
            | none => exact absurd (hon.mpr hq) h5
            | some p => exact ⟨p, rfl⟩
          have hp4 := (hb.2.2.1 p hp).1
          have e1 : gTen W B = p := by
            unfold gTen
            rw [hp]
          rw [e1, ← gNew_fun] at hK
          refine ⟨p, congrArg oI hp, hp4, ?_⟩
          refine ⟨p, congrArg oI hp, hp4, ?_⟩
          exact hK
        · have hp : B.1 = none := hon.mp h5
          have e1 : gTen W B = lowI W 3 := by
            unfold gTen
            rw [hp]
          have e2 := hb.2.2.2 hp
          have hl := lowI_le W 3
          rw [e1, e2, ← gNew_fun] at hK
          refine ⟨R, P, S, hs, nF W, bf, st, ln, at0, nu, th, r, rfl, rfl, ?_⟩
          refine ⟨lowI W 3, by rw [lowR_eq hW 3 (by decide)], by omega, ?_⟩
          refine ⟨lowI W 3, by rw [lowR_eq hW 3 (by decide)], by omega, ?_⟩
          exact hK
      · have h4 : t < 4 := by
          rw [nI_leI (by decide) (by omega)] at h
          omega
        have hWt := hW t h4
        refine ⟨8, 0, b, rfl, by omega, h4, by omega, hb, ?_, rfl, rfl, rfl, rfl⟩
        have e0 : sumI (fun p => gaR R (t * 8 + p)) (W t + 0) - sumI (fun p => gaR R (t * 8 + p)) (W t) = nI 0 := Int32.sub_self _
        rw [hr, show 4 - t = (3 - t) + 1 by omega, gOut, e0]
  · refine wr_ok hf hc 5 0 _ _ _ _ _ ?_
    exact ⟨4, 0, (none, 1, nI 0), rfl, by omega, ⟨Nat.le_refl _, by decide, fun p hp => (by cases hp), fun _ => rfl⟩, hres.symm, rfl, rfl, rfl, rfl⟩
end MM8

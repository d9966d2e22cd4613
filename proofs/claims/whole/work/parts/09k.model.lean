/-! PartitionedCacheModel: what a monitor learns. -/
section MM11
def wtP (R : Nat → Int32) (fr a n : Nat) : Nat := fst1 (fun j => decide (R (fr + j) = nI a)) n
def wt1 (R : Nat → Int32) (t q n p : Nat) : Nat → Int32 := if p < n then upd R (152 + t * 8 + p) (R (152 + t * 8 + p) + nI 1) else upd R (72 + q) (nI (if n = 8 then 8 else n + 1))
def wtS (R : Nat → Int32) (fr p k : Nat) : Nat → Int32 := fun j => if fr + k < j ∧ j ≤ fr + p then R (j - 1) else R j
def wtR (R : Nat → Int32) (t a n : Nat) : Nat → Int32 := upd (upd (wtS (wt1 R t (t * 2 + a % 4 / 2) n (wtP R (80 + 9 * (t * 2 + a % 4 / 2)) a n)) (80 + 9 * (t * 2 + a % 4 / 2)) (wtP R (80 + 9 * (t * 2 + a % 4 / 2)) a n) 0) (80 + 9 * (t * 2 + a % 4 / 2)) (nI a)) (80 + 9 * (t * 2 + a % 4 / 2) + 8) (nI 0)
def sX7_watch : gS := fun av es K => ∃ x y t a n fs R r, av = [.ref 0, .int x, .int y] ∧ x = nI t ∧ y = nI a ∧ t < 4 ∧ a < 256 ∧ (a % 2 = 0 → R (72 + (t * 2 + a % 4 / 2)) = nI n ∧ n ≤ 8) ∧ es = rw2 fs R r ∧ K none (rw2 fs (if a % 2 = 0 then wtR R t a n else R) r)
def rmX7_watch : Room := { frames := 0, cells := 0, slots := 0, locals := 0 }
def pX7_watch (K : gK) : List (Nat × gO) := [(0, oFR 2 (oILoad 2)), (1, oConst (nI 2)), (2, oRem), (3, oConst (nI 1)), (4, oICmp_ne 8), (7, oRetV K 0 0), (8, oConst (nI 2)), (9, oILoad 1), (10, oMul), (11, oILoad 2), (12, oConst (nI 4)), (13, oRem), (14, oConst (nI 2)), (15, oDiv), (16, oAdd), (17, oIStore 8 3), (18, oConst (nI 80)), (20, oConst (nI 9)), (22, oFR 2 (oILoad 3)), (23, oMul), (24, oAdd), (25, oIStore 8 4), (27, oFR 2 (oALoad 0)), (28, oGet 7 0), (31, oConst (nI 72)), (33, oILoad 3), (34, oAdd), (35, oIALd 0), (36, oIStore 8 5), (38, oConst (nI 0)), (39, oFR 2 (oIStore 8 6)), (41, oFR 2 (oILoad 6)), (43, oILoad 5), (45, oICmp_ge 68), (48, oALoad 0), (49, oGet 7 0), (52, oILoad 4), (54, oILoad 6), (56, oAdd), (57, oIALd 0), (58, oILoad 2), (59, oICmp_eq 68), (62, oIInc 8 6 (nI 1)), (65, oGoto 41), (68, oFR 2 (oILoad 6)), (70, oILoad 5), (72, oICmp_ge 98), (75, oALoad 0), (76, oGet 7 0), (79, oConst (nI 152)), (82, oConst (nI 8)), (84, oILoad 1), (85, oMul), (86, oAdd), (87, oILoad 6), (89, oAdd), (90, oDup2), (91, oIALd 0), (92, oConst (nI 1)), (93, oAdd), (94, oIASt), (95, oGoto 123), (98, oFR 2 (oALoad 0)), (99, oGet 7 0), (102, oConst (nI 72)), (104, oILoad 3), (105, oAdd), (106, oILoad 5), (108, oConst (nI 8)), (110, oICmp_ne 118), (113, oConst (nI 8)), (115, oGoto 122), (118, oILoad 5), (120, oConst (nI 1)), (121, oAdd), (122, oIASt), (123, oFR 2 (oILoad 6)), (125, oIStore 8 7), (127, oFR 2 (oILoad 7)), (129, oIf_le 160), (132, oALoad 0), (133, oGet 7 0), (136, oILoad 4), (138, oILoad 7), (140, oAdd), (141, oALoad 0), (142, oGet 7 0), (145, oILoad 4), (147, oILoad 7), (149, oAdd), (150, oConst (nI 1)), (151, oSub), (152, oIALd 0), (153, oIASt), (154, oFR 2 (oIInc 8 7 (-1))), (157, oGoto 127), (160, oFR 2 (oALoad 0)), (161, oGet 7 0), (164, oILoad 4), (166, oILoad 2), (167, oIASt), (168, oFR 2 (oALoad 0)), (169, oGet 7 0), (172, oILoad 4), (174, oConst (nI 8)), (176, oAdd), (177, oConst (nI 0)), (178, oIASt), (179, oFR 2 (oRetV K 0 0))]
set_option maxRecDepth 100000 in
theorem kX7_watch {X : gX} {l : Launch} (hM : gM X l cX7_watch RX7 wsX7_watch rmX7_watch) {K : gK} (hE : gR X K 0 0 none) (hnL : X.2.2.2.2.2.2.2.2.2.2.2.2.2.2.2.2 = 8) : okL X (pX7_watch K) := by
  obtain ⟨p, l1, e, R, s, m, args, below, meth, c, D, cA, A, ag, ad0, Q, nL⟩ := X
  cases hnL
  refine ⟨ok_FR (ok_iload_n hM 2 dX7_watch_0 rfl),
    ok_iconst hM dX7_watch_1 rfl,
    ok_irem hM dX7_watch_2,
    ok_iconst hM dX7_watch_3 rfl,
    ok_icmp_ne hM 8 dX7_watch_4 (by decide),
    ok_retV hM hE dX7_watch_7,
    ok_iconst hM dX7_watch_8 rfl,
    ok_iload_n hM 1 dX7_watch_9 rfl,
    ok_imul hM dX7_watch_10,
    ok_iload_n hM 2 dX7_watch_11 rfl,
    ok_iconst hM dX7_watch_12 rfl,
    ok_irem hM dX7_watch_13,
    ok_iconst hM dX7_watch_14 rfl,
    ok_idiv hM dX7_watch_15,
    ok_iadd hM dX7_watch_16,
    ok_istore_n hM 3 dX7_watch_17 rfl,
    ok_bipush hM dX7_watch_18 rfl,
    ok_bipush hM dX7_watch_20 rfl,
    ok_FR (ok_iload_n hM 3 dX7_watch_22 rfl),
    ok_imul hM dX7_watch_23,
    ok_iadd hM dX7_watch_24,
    ok_istore hM 4 dX7_watch_25,
    ok_FR (ok_aload_n hM 0 dX7_watch_27 rfl),
    ok_get (C := RX7) (T := TX7) (Nf := 11) hM (fun _ h => List.mem_cons_of_mem _ (List.mem_append_right _ h)) rfl 0 (by decide) (List.mem_of_getElem? (i := 1) rfl) rfl dX7_watch_28,
    ok_bipush hM dX7_watch_31 rfl,
    ok_iload_n hM 3 dX7_watch_33 rfl,
    ok_iadd hM dX7_watch_34,
    ok_iald hM dX7_watch_35,
    ok_istore hM 5 dX7_watch_36,
    ok_iconst hM dX7_watch_38 rfl,
    ok_FR (ok_istore hM 6 dX7_watch_39),
    ok_FR (ok_iload hM 6 dX7_watch_41),
    ok_iload hM 5 dX7_watch_43,
    ok_icmp_ge hM 68 dX7_watch_45 (by decide),
    ok_aload_n hM 0 dX7_watch_48 rfl,
    ok_get (C := RX7) (T := TX7) (Nf := 11) hM (fun _ h => List.mem_cons_of_mem _ (List.mem_append_right _ h)) rfl 0 (by decide) (List.mem_of_getElem? (i := 1) rfl) rfl dX7_watch_49,
    ok_iload hM 4 dX7_watch_52,
    ok_iload hM 6 dX7_watch_54,
    ok_iadd hM dX7_watch_56,
    ok_iald hM dX7_watch_57,
    ok_iload_n hM 2 dX7_watch_58 rfl,
    ok_icmp_eq hM 68 dX7_watch_59 (by decide),
    ok_iinc hM 6 dX7_watch_62 rfl,
    ok_goto hM 41 dX7_watch_65 (by decide),
    ok_FR (ok_iload hM 6 dX7_watch_68),
    ok_iload hM 5 dX7_watch_70,
    ok_icmp_ge hM 98 dX7_watch_72 (by decide),
    ok_aload_n hM 0 dX7_watch_75 rfl,
    ok_get (C := RX7) (T := TX7) (Nf := 11) hM (fun _ h => List.mem_cons_of_mem _ (List.mem_append_right _ h)) rfl 0 (by decide) (List.mem_of_getElem? (i := 1) rfl) rfl dX7_watch_76,
    ok_sipush hM dX7_watch_79 rfl,
    ok_bipush hM dX7_watch_82 rfl,
    ok_iload_n hM 1 dX7_watch_84 rfl,
    ok_imul hM dX7_watch_85,
    ok_iadd hM dX7_watch_86,
    ok_iload hM 6 dX7_watch_87,
    ok_iadd hM dX7_watch_89,
    ok_dup2 hM dX7_watch_90,
    ok_iald hM dX7_watch_91,
    ok_iconst hM dX7_watch_92 rfl,
    ok_iadd hM dX7_watch_93,
    ok_iast hM dX7_watch_94,
    ok_goto hM 123 dX7_watch_95 (by decide),
    ok_FR (ok_aload_n hM 0 dX7_watch_98 rfl),
    ok_get (C := RX7) (T := TX7) (Nf := 11) hM (fun _ h => List.mem_cons_of_mem _ (List.mem_append_right _ h)) rfl 0 (by decide) (List.mem_of_getElem? (i := 1) rfl) rfl dX7_watch_99,
    ok_bipush hM dX7_watch_102 rfl,
    ok_iload_n hM 3 dX7_watch_104 rfl,
    ok_iadd hM dX7_watch_105,
    ok_iload hM 5 dX7_watch_106,
    ok_bipush hM dX7_watch_108 rfl,
    ok_icmp_ne hM 118 dX7_watch_110 (by decide),
    ok_bipush hM dX7_watch_113 rfl,
    ok_goto hM 122 dX7_watch_115 (by decide),
    ok_iload hM 5 dX7_watch_118,
    ok_iconst hM dX7_watch_120 rfl,
    ok_iadd hM dX7_watch_121,
    ok_iast hM dX7_watch_122,
    ok_FR (ok_iload hM 6 dX7_watch_123),
    ok_istore hM 7 dX7_watch_125,
    ok_FR (ok_iload hM 7 dX7_watch_127),
    ok_if_le hM 160 dX7_watch_129 (by decide),
    ok_aload_n hM 0 dX7_watch_132 rfl,
    ok_get (C := RX7) (T := TX7) (Nf := 11) hM (fun _ h => List.mem_cons_of_mem _ (List.mem_append_right _ h)) rfl 0 (by decide) (List.mem_of_getElem? (i := 1) rfl) rfl dX7_watch_133,
    ok_iload hM 4 dX7_watch_136,
    ok_iload hM 7 dX7_watch_138,
    ok_iadd hM dX7_watch_140,
    ok_aload_n hM 0 dX7_watch_141 rfl,
    ok_get (C := RX7) (T := TX7) (Nf := 11) hM (fun _ h => List.mem_cons_of_mem _ (List.mem_append_right _ h)) rfl 0 (by decide) (List.mem_of_getElem? (i := 1) rfl) rfl dX7_watch_142,
    ok_iload hM 4 dX7_watch_145,
    ok_iload hM 7 dX7_watch_147,
    ok_iadd hM dX7_watch_149,
    ok_iconst hM dX7_watch_150 rfl,
    ok_isub hM dX7_watch_151,
    ok_iald hM dX7_watch_152,
    ok_iast hM dX7_watch_153,
    ok_FR (ok_iinc hM 7 dX7_watch_154 rfl),
    ok_goto hM 127 dX7_watch_157 (by decide),
    ok_FR (ok_aload_n hM 0 dX7_watch_160 rfl),
    ok_get (C := RX7) (T := TX7) (Nf := 11) hM (fun _ h => List.mem_cons_of_mem _ (List.mem_append_right _ h)) rfl 0 (by decide) (List.mem_of_getElem? (i := 1) rfl) rfl dX7_watch_161,
    ok_iload hM 4 dX7_watch_164,
    ok_iload_n hM 2 dX7_watch_166 rfl,
    ok_iast hM dX7_watch_167,
    ok_FR (ok_aload_n hM 0 dX7_watch_168 rfl),
    ok_get (C := RX7) (T := TX7) (Nf := 11) hM (fun _ h => List.mem_cons_of_mem _ (List.mem_append_right _ h)) rfl 0 (by decide) (List.mem_of_getElem? (i := 1) rfl) rfl dX7_watch_169,
    ok_iload hM 4 dX7_watch_172,
    ok_bipush hM dX7_watch_174 rfl,
    ok_iadd hM dX7_watch_176,
    ok_iconst hM dX7_watch_177 rfl,
    ok_iast hM dX7_watch_178,
    ok_FR (ok_retV hM hE dX7_watch_179),
    trivial⟩
set_option maxRecDepth 100000 in
theorem ctX7_watch (l : Launch) : Ct l yX7_watch wsX7_watch rmX7_watch 0 0 false sX7_watch := by
  refine ct_of (own := RX7) (cc := cX7_watch) (maxL := 8) (ret := none) (by decide) rfl rfl (by rintro _ _ _ ⟨x, y, t, a, n, fs, R, r, rfl, rfl, rfl, ht, ha, hn, rfl, hK⟩; exact Nat.le_of_ble_eq_true rfl) ?_
  intro X av es K hM hE hag hin hnL hsp
  obtain ⟨x, y, t, a, n, fs, R, r, rfl, rfl, rfl, ht, ha, hn, rfl, hK⟩ := hsp
  have hf := kX7_watch hM (gR_eqv hE) hnL
  generalize hq : t * 2 + a % 4 / 2 = q at hn
  have hq8 : q < 8 := by omega
  have hq' : nI 2 * nI t + (nI a - nI a / nI 4 * nI 4) / nI 2 = nI q := by
    rw [rem4 ha, pk_mul, pk_div (by omega) (by decide) (by decide), nI_add, ← hq, Nat.mul_comm]
  generalize hp : wtP R (80 + 9 * q) a n = p
  refine g_with (X := X) 127 [0, 2, 4, 7] (fun μ vs es k m => ∃ (i : Nat) (R' : Nat → Int32), μ = i + 1 ∧ i ≤ p ∧ p ≤ n ∧ n ≤ 8 ∧ a % 2 = 0 ∧ (∀ j, R' j = wtS (wt1 R t q n p) (80 + 9 * q) p i j) ∧ vs = [.ref 0, .int (nI a), .int (nI (80 + 9 * q)), .int (nI i)] ∧ es = rw2 fs R' r ∧ k = 0 ∧ m = 0) cut_nil (fun μ hc vs es k m hI => ?_) (fun hc1 => ?_)
  · obtain ⟨i, R', rfl, hi, hpn, hn8, hev, hR, rfl, rfl, rfl, rfl⟩ := hI
    refine g_go hf hc 5 ?_
    refine ⟨fun h => ?_, fun h => ?_⟩
    · have h0 : i = 0 := by
        rcases Nat.eq_zero_or_pos i with q | q
        · exact q
        · exact absurd h (nI_nle q (by omega))
      subst h0
      rw [if_pos hev] at hK
      refine ⟨80 + 9 * q, rfl, by omega, ?_⟩
      refine ⟨80 + 9 * q + 8, nI_add _ _, by omega, ?_⟩
      refine ⟨rw2 fs (wtR R t a n) r, ⟨rfl, ⟨rfl, rfl, fun j hj => ?_⟩, eqL_rfl _⟩, hK⟩
      unfold wtR
      rw [hq, hp]
      unfold upd
      simp only [hR]
    · have h0 : 0 < i := by
        rcases Nat.eq_zero_or_pos i with q | q
        · subst q; exact absurd (by decide) h
        · exact q
      have e1 : nI (80 + 9 * q) + nI i - nI 1 = nI (80 + 9 * q + i - 1) := by rw [nI_add, pk_sub (by omega)]
      refine ⟨80 + 9 * q + i - 1, e1, by omega, ?_⟩
      refine ⟨80 + 9 * q + i, nI_add _ _, by omega, ?_⟩
      refine ⟨i - 1 + 1, by omega, i - 1, upd R' (80 + 9 * q + i) (R' (80 + 9 * q + i - 1)), rfl, by omega, hpn, hn8, hev, fun j => ?_, ?_, rfl, rfl, rfl⟩
      · unfold upd wtS
        by_cases hj : j = 80 + 9 * q + i
        · subst hj
          rw [if_pos rfl, if_pos ⟨by omega, by omega⟩, hR]
          unfold wtS
          rw [if_neg (by omega)]
        · rw [if_neg hj, hR]
          unfold wtS
          by_cases hj2 : 80 + 9 * q + i < j ∧ j ≤ 80 + 9 * q + p
          · rw [if_pos hj2, if_pos ⟨by omega, hj2.2⟩]
          · rw [if_neg hj2, if_neg (by omega)]
      · have e2 : nI i + (-1) = nI (i - 1) := sb_m1 h0
        rw [e2]
  · refine g_with (X := X) 68 [0, 1, 2, 3, 4, 5, 6] (fun μ vs es k m => μ = 0 ∧ p ≤ n ∧ n ≤ 8 ∧ a % 2 = 0 ∧ vs = [.ref 0, .int (nI t), .int (nI a), .int (nI q), .int (nI (80 + 9 * q)), .int (nI n), .int (nI p)] ∧ es = rw2 fs R r ∧ k = 0 ∧ m = 0) hc1 (fun μ hc vs es k m hI => ?_) (fun hc2 => ?_)
    · obtain ⟨rfl, hpn, hn8, hev, rfl, rfl, rfl, rfl⟩ := hI
      refine g_go hf hc 5 ?_
      refine ⟨fun h => ?_, fun h => ?_⟩
      · have h1 : ¬ p < n := by
          rw [nI_leI (by omega) (by omega)] at h
          omega
        have e1 : wt1 R t q n p = upd R (72 + q) (nI (if n = 8 then 8 else n + 1)) := if_neg h1
        refine ⟨fun h2 => ?_, fun h2 => ?_⟩
        · have h3 : ¬ n = 8 := fun z => h2 (by rw [z])
          refine ⟨72 + q, nI_add _ _, by omega, ?_⟩
          refine ⟨p + 1, p, _, rfl, Nat.le_refl _, hpn, hn8, hev, fun j => ?_, rfl, rfl, rfl, rfl⟩
          unfold wtS
          rw [if_neg (by omega), e1, if_neg h3, nI_add]
        · have h3 : n = 8 := (nI_eq (by omega) (by decide)).mp h2
          refine ⟨72 + q, nI_add _ _, by omega, ?_⟩
          refine ⟨p + 1, p, _, rfl, Nat.le_refl _, hpn, hn8, hev, fun j => ?_, rfl, rfl, rfl, rfl⟩
          unfold wtS
          rw [if_neg (by omega), e1, if_pos h3]
      · have h1 : p < n := by
          rw [nI_leI (by omega) (by omega)] at h
          omega
        have e1 : wt1 R t q n p = upd R (152 + t * 8 + p) (R (152 + t * 8 + p) + nI 1) := if_pos h1
        have e2 : nI 152 + nI 8 * nI t + nI p = nI (152 + t * 8 + p) := by rw [pk_mul, nI_add, nI_add, Nat.mul_comm]
        refine ⟨152 + t * 8 + p, e2, by omega, ?_⟩
        refine ⟨152 + t * 8 + p, e2, by omega, ?_⟩
        refine ⟨p + 1, p, _, rfl, Nat.le_refl _, hpn, hn8, hev, fun j => ?_, rfl, rfl, rfl, rfl⟩
        unfold wtS
        rw [if_neg (by omega), e1]
    · refine g_with (X := X) 41 [0, 1, 2, 3, 4, 5, 6] (fun μ vs es k m => ∃ i : Nat, μ = 8 - i ∧ i ≤ n ∧ n ≤ 8 ∧ a % 2 = 0 ∧ (∀ j, j < i → ¬ R (80 + 9 * q + j) = nI a) ∧ vs = [.ref 0, .int (nI t), .int (nI a), .int (nI q), .int (nI (80 + 9 * q)), .int (nI n), .int (nI i)] ∧ es = rw2 fs R r ∧ k = 0 ∧ m = 0) hc2 (fun μ hc vs es k m hI => ?_) (fun hc => ?_)
      · obtain ⟨i, rfl, hi, hn8, hev, hno, rfl, rfl, rfl, rfl⟩ := hI
        refine g_go hf hc 5 ?_
        refine ⟨fun h => ?_, fun h => ?_⟩
        · have h4 : i = n := by
            rw [nI_leI (by omega) (by omega)] at h
            omega
          subst h4
          have e1 : p = i := by
            rw [← hp]
            exact fst1_none (fun j hj => by simpa using hno j hj)
          subst e1
          exact ⟨0, rfl, Nat.le_refl _, hn8, hev, rfl, rfl, rfl, rfl⟩
        · have h4 : i < n := by
            rw [nI_leI (by omega) (by omega)] at h
            omega
          refine ⟨80 + 9 * q + i, nI_add _ _, by omega, ?_⟩
          refine ⟨fun h5 => ?_, fun h5 => ?_⟩
          · have e1 : p = i := by
              rw [← hp]
              exact fst1_eq (by simpa using h5) (fun j hj => by simpa using hno j hj) h4
            subst e1
            exact ⟨0, rfl, by omega, hn8, hev, rfl, rfl, rfl, rfl⟩
          · refine ⟨8 - (i + 1), by omega, i + 1, rfl, by omega, hn8, hev, fun j hj => ?_, by rw [nI_add], rfl, rfl, rfl⟩
            by_cases hj2 : j = i
            · rw [hj2]
              exact h5
            · exact hno j (by omega)
      · refine wr_ok hf hc 5 0 _ _ _ _ _ ?_
        refine ⟨by decide, ?_⟩
        have e2 : nI a - nI a / nI 2 * nI 2 = nI (a % 2) := pk_rem (by omega) (by decide) (by decide)
        rw [e2]
        refine ⟨fun h => ?_, fun h => ?_⟩
        · have hev : a % 2 = 0 := by
            by_cases z : a % 2 = 1
            · exact absurd (by rw [z]) h
            · omega
          obtain ⟨h1, h2⟩ := hn hev
          refine ⟨by decide, ?_⟩
          refine ⟨by decide, ?_⟩
          refine ⟨72 + q, by rw [hq', nI_add], by omega, ?_⟩
          exact ⟨8, 0, rfl, by omega, h2, hev, fun j hj => absurd hj (by omega), by rw [hq', h1, pk_mul, nI_add] <;> rfl, rfl, rfl, rfl⟩
        · have hev : ¬ a % 2 = 0 := fun z => by
            rw [z] at h
            exact absurd h (by decide)
          rw [if_neg hev] at hK
          exact ⟨rw2 fs R r, eqL_rfl _, hK⟩
end MM11

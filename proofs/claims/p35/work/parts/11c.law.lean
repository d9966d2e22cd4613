/-! The law's small helpers. -/
section LH1
def lowN (x : Int32) (m : Nat) : Nat := x.toBitVec.toNat % 2 ^ 31 % m
theorem lowN_lt (x : Int32) {m : Nat} (h : 0 < m) : lowN x m < m := Nat.mod_lt _ h
theorem low_eq (x : Int32) {m : Nat} (h : 0 < m) (hm : m < 2 ^ 31) : (x &&& 2147483647) - (x &&& 2147483647) / nI m * nI m = nI (lowN x m) := by
  rw [pk_and x 31 (by decide), pk_rem (Nat.mod_lt _ (by decide)) h hm]
  rfl
def s_low : gHS := fun av v F => ∃ (x : Int32) (m : Nat), av = [.int x, .int (nI m)] ∧ 0 < m ∧ m < 2 ^ 31 ∧ F (nI (lowN x m)) v
def rmL_low : Room := { frames := 0, cells := 0, slots := 0, locals := 0 }
def pL_low (K : gK) : List (Nat × gO) := [(0, oFR 0 (oILoad 0)), (1, oConst (2147483647)), (3, oAnd), (4, oILoad 1), (5, oRem), (6, oPRet K 0 0)]
set_option maxRecDepth 100000 in
theorem kL_low {X : gX} {l : Launch} (hl : l.stackTraces = false) (hM : gM X l cL_low RL wsL_low rmL_low) {K : gK} (hE : gR X K 0 0 (some .int)) (hnL : X.2.2.2.2.2.2.2.2.2.2.2.2.2.2.2.2 = 2) : okL X (pL_low K) := by
  obtain ⟨p, l1, e, R, s, m, args, below, meth, c, D, cA, A, ag, ad0, Q, nL⟩ := X
  cases hnL
  refine ⟨ok_FR (ok_iload_n hM 0 dL_low_0 rfl),
    ok_ldc hM (List.mem_of_getElem? (i := 1) rfl) dL_low_1,
    ok_iand hM dL_low_3,
    ok_iload_n hM 1 dL_low_4 rfl,
    ok_irem hM dL_low_5,
    ok_PRet hM hE dL_low_6,
    trivial⟩
set_option maxRecDepth 100000 in
theorem ctL_low (l : Launch) (hl : l.stackTraces = false) : Ct l yL_low wsL_low rmL_low 0 0 false (hS s_low) := by
  refine ct_of (own := RL) (cc := cL_low) (maxL := 2) (ret := (some .int)) (by decide) rfl rfl (by rintro _ _ _ ⟨v, F, hPW, ⟨x, m, rfl, h0, h1, hF⟩, hK⟩; exact Nat.le_of_ble_eq_true rfl) ?_
  intro X av es K hM hE hag _ hnL hsp
  obtain ⟨v, F, hPW, ⟨x, m, rfl, h0, h1, hF⟩, hK⟩ := hsp
  have hf := kL_low hl hM hE hnL
  rw [← List.append_nil es]
  refine wr_ok hf cut_nil 9 0 _ _ _ _ _ ?_
  refine ⟨nI_ne0 h0 h1, ?_⟩
  refine ⟨⟨by omega, by omega⟩, v, es, [], rfl, hPW, ?_⟩
  rw [← low_eq x h0 h1] at hF
  exact hK _ _ _ hF hPW
def s_find : gHS := fun av v F => ∃ t a : Nat, av = [.ref 0, .int (nI t), .int (nI a)] ∧ t < 4 ∧ a < 256 ∧ pU (vHd v) ∧ F (fdR (vHd v) t a) v
abbrev fnP (hd : Nat → Int32) (t a : Nat) : Nat → Bool := fun w => decide (hd (a % 4 * 8 + w) = lnN t a)
def rmL_find : Room := { frames := 8, cells := 16, slots := 96, locals := 133 }
def pL_find (K : gK) : List (Nat × gO) := [(0, oConst (-1)), (1, oFR 0 (oIStore 7 3)), (2, oConst (nI 0)), (3, oFR 0 (oIStore 7 4)), (5, oConst (nI 0)), (6, oFR 0 (oIStore 7 5)), (8, oFR 0 (oILoad 5)), (10, oConst (nI 8)), (12, oICmp_ge 74), (15, oALoad 0), (16, oILoad 2), (17, oConst (nI 4)), (18, oRem), (19, oILoad 5), (21, oPX 16 96 2 12 2 p_line), (24, oConst (nI 256)), (27, oILoad 1), (28, oMul), (29, oILoad 2), (30, oAdd), (31, oICmp_ne 38), (34, oConst (nI 1)), (35, oGoto 39), (38, oConst (nI 0)), (39, oIStore 7 6), (41, oFR 0 (oILoad 6)), (43, oIf_eq 51), (46, oILoad 5), (48, oGoto 52), (51, oILoad 3), (52, oIStore 7 3), (53, oFR 0 (oILoad 4)), (55, oILoad 6), (57, oIf_eq 64), (60, oConst (nI 1)), (61, oGoto 65), (64, oConst (nI 0)), (65, oAdd), (66, oIStore 7 4), (68, oFR 0 (oIInc 7 5 (nI 1))), (71, oGoto 8), (74, oFR 0 (oILoad 4)), (76, oConst (nI 1)), (77, oICmp_le 88), (80, oConst (nI 100)), (82, oILoad 4), (84, oMul), (85, oGoto 89), (88, oILoad 3), (89, oPRet K 16 96)]
set_option maxRecDepth 100000 in
theorem kL_find {X : gX} {l : Launch} (hl : l.stackTraces = false) (hM : gM X l cL_find RL wsL_find rmL_find) {K : gK} (hE : gR X K 16 96 (some .int)) (hnL : X.2.2.2.2.2.2.2.2.2.2.2.2.2.2.2.2 = 7) : okL X (pL_find K) := by
  obtain ⟨p, l1, e, R, s, m, args, below, meth, c, D, cA, A, ag, ad0, Q, nL⟩ := X
  cases hnL
  refine ⟨ok_iconst hM dL_find_0 rfl,
    ok_FR (ok_istore_n hM 3 dL_find_1 rfl),
    ok_iconst hM dL_find_2 rfl,
    ok_FR (ok_istore hM 4 dL_find_3),
    ok_iconst hM dL_find_5 rfl,
    ok_FR (ok_istore hM 5 dL_find_6),
    ok_FR (ok_iload hM 5 dL_find_8),
    ok_bipush hM dL_find_10 rfl,
    ok_icmp_ge hM 74 dL_find_12 (by decide),
    ok_aload_n hM 0 dL_find_15 rfl,
    ok_iload_n hM 2 dL_find_16 rfl,
    ok_iconst hM dL_find_17 rfl,
    ok_irem hM dL_find_18,
    ok_iload hM 5 dL_find_19,
    ok_PX hM (cx_line l hl) gL_find_X6_line rfl rfl rfl (by decide +kernel) (by decide) dL_find_21,
    ok_sipush hM dL_find_24 rfl,
    ok_iload_n hM 1 dL_find_27 rfl,
    ok_imul hM dL_find_28,
    ok_iload_n hM 2 dL_find_29 rfl,
    ok_iadd hM dL_find_30,
    ok_icmp_ne hM 38 dL_find_31 (by decide),
    ok_iconst hM dL_find_34 rfl,
    ok_goto hM 39 dL_find_35 (by decide),
    ok_iconst hM dL_find_38 rfl,
    ok_istore hM 6 dL_find_39,
    ok_FR (ok_iload hM 6 dL_find_41),
    ok_if_eq hM 51 dL_find_43 (by decide),
    ok_iload hM 5 dL_find_46,
    ok_goto hM 52 dL_find_48 (by decide),
    ok_iload_n hM 3 dL_find_51 rfl,
    ok_istore_n hM 3 dL_find_52 rfl,
    ok_FR (ok_iload hM 4 dL_find_53),
    ok_iload hM 6 dL_find_55,
    ok_if_eq hM 64 dL_find_57 (by decide),
    ok_iconst hM dL_find_60 rfl,
    ok_goto hM 65 dL_find_61 (by decide),
    ok_iconst hM dL_find_64 rfl,
    ok_iadd hM dL_find_65,
    ok_istore hM 4 dL_find_66,
    ok_FR (ok_iinc hM 5 dL_find_68 rfl),
    ok_goto hM 8 dL_find_71 (by decide),
    ok_FR (ok_iload hM 4 dL_find_74),
    ok_iconst hM dL_find_76 rfl,
    ok_icmp_le hM 88 dL_find_77 (by decide),
    ok_bipush hM dL_find_80 rfl,
    ok_iload hM 4 dL_find_82,
    ok_imul hM dL_find_84,
    ok_goto hM 89 dL_find_85 (by decide),
    ok_iload_n hM 3 dL_find_88 rfl,
    ok_PRet hM hE dL_find_89,
    trivial⟩
set_option maxRecDepth 100000 in
theorem ctL_find (l : Launch) (hl : l.stackTraces = false) : Ct l yL_find wsL_find rmL_find 16 96 false (hS s_find) := by
  refine ct_of (own := RL) (cc := cL_find) (maxL := 7) (ret := (some .int)) (by decide) rfl rfl (by rintro _ _ _ ⟨v, F, hPW, ⟨t, a, rfl, ht, ha, hU, hF⟩, hK⟩; exact Nat.le_of_ble_eq_true rfl) ?_
  intro X av es K hM hE hag _ hnL hsp
  obtain ⟨v, F, hPW, ⟨t, a, rfl, ht, ha, hU, hF⟩, hK⟩ := hsp
  have hf := kL_find hl hM hE hnL
  rw [← List.append_nil es]
  obtain ⟨hc1, hf1⟩ := fnd_fd hU ht ha
  have hc1 : cnt (fnP (vHd v) t a) 8 ≤ 1 := hc1
  have hf1 : fnd (fnP (vHd v) t a) 8 = fdR (vHd v) t a := hf1
  refine g_with (X := X) 8 [0, 1, 2, 3, 4, 5] (fun μ vs es k n => ∃ (i : Nat) (C : List gE), μ = 8 - i ∧ i ≤ 8 ∧ PW v C ∧ vs = [.ref 0, .int (nI t), .int (nI a), .int (fnd (fnP (vHd v) t a) i), .int (nI (cnt (fnP (vHd v) t a) i)), .int (nI i)] ∧ es = C ++ [] ∧ k = 2 * i ∧ n = 12 * i) cut_nil (fun μ hc vs es k n hI => ?_) (fun hc => ?_)
  · obtain ⟨i, C, rfl, hi, hPW, rfl, rfl, rfl, rfl⟩ := hI
    refine g_go hf hc 30 ?_
    refine ⟨fun h => ?_, fun h => ?_⟩
    · have h8 : i = 8 := by
        rw [nI_leI (by decide) (by omega)] at h
        omega
      subst h8
      refine ⟨fun h2 => ?_, fun h2 => ?_⟩
      · refine ⟨⟨by omega, by omega⟩, v, C, [], rfl, hPW, ?_⟩
        rw [hf1]
        exact hK _ _ _ hF hPW
      · rw [nI_leI (by omega) (by omega)] at h2
        exact absurd hc1 h2
    · rw [nI_leI (by decide) (by omega)] at h
      refine ⟨by decide, ?_⟩
      refine ⟨⟨by omega, by omega⟩, v, C, [], rfl, hPW, ⟨a % 4, i, by rw [rem4 ha], by omega, by omega, fun C hPW => ?_⟩⟩
      have ex : nI 256 * nI t + nI a = lnN t a := by
        show _ = nI t * nI 256 + nI a
        rw [Int32.mul_comm]
      refine ⟨fun h2 => ?_, fun h2 => ?_⟩
      · have h2 : ¬ vHd v (a % 4 * 8 + i) = nI 256 * nI t + nI a := h2
        rw [ex] at h2
        have hp : ¬ fnP (vHd v) t a i = true := by simpa using h2
        refine ⟨fun _ => ?_, fun q => absurd rfl q⟩
        refine ⟨fun _ => ?_, fun q => absurd rfl q⟩
        have e1 : fnd (fnP (vHd v) t a) (i + 1) = fnd (fnP (vHd v) t a) i := if_neg hp
        exact ⟨8 - (i + 1), by omega, i + 1, C, rfl, by omega, hPW, by rw [nI_add, nI_add, cnt_f hp, e1]; rfl, rfl, by omega, by omega⟩
      · have h2 : vHd v (a % 4 * 8 + i) = nI 256 * nI t + nI a := h2
        rw [ex] at h2
        have hp : fnP (vHd v) t a i = true := by simpa using h2
        refine ⟨fun q => absurd q (by decide), fun _ => ?_⟩
        refine ⟨fun q => absurd q (by decide), fun _ => ?_⟩
        have e1 : fnd (fnP (vHd v) t a) (i + 1) = nI i := if_pos hp
        exact ⟨8 - (i + 1), by omega, i + 1, C, rfl, by omega, hPW, by rw [nI_add, nI_add, cnt_t hp, e1], rfl, by omega, by omega⟩
  · refine wr_ok hf hc 5 0 _ _ _ _ _ ?_
    exact ⟨8, 0, es, rfl, by omega, hPW, rfl, rfl, rfl, rfl⟩
def s_all : gHS := fun av v F => av = [.ref 0] ∧ pH (vHd v) ∧ F (nI (nE (vHd v))) v
def rmL_all : Room := { frames := 9, cells := 4, slots := 24, locals := 154 }
def pL_all (K : gK) : List (Nat × gO) := [(0, oFR 0 (oALoad 0)), (1, oConst (nI 0)), (2, oConst (nI 0)), (3, oPX 4 24 1 6 2 p_lines), (6, oALoad 0), (7, oConst (nI 1)), (8, oConst (nI 0)), (9, oPX 4 24 1 6 2 p_lines), (12, oAdd), (13, oALoad 0), (14, oConst (nI 2)), (15, oConst (nI 0)), (16, oPX 4 24 1 6 2 p_lines), (19, oAdd), (20, oALoad 0), (21, oConst (nI 3)), (22, oConst (nI 0)), (23, oPX 4 24 1 6 2 p_lines), (26, oAdd), (27, oPRet K 4 24)]
set_option maxRecDepth 100000 in
theorem kL_all {X : gX} {l : Launch} (hl : l.stackTraces = false) (hM : gM X l cL_all RL wsL_all rmL_all) {K : gK} (hE : gR X K 4 24 (some .int)) (hnL : X.2.2.2.2.2.2.2.2.2.2.2.2.2.2.2.2 = 1) : okL X (pL_all K) := by
  obtain ⟨p, l1, e, R, s, m, args, below, meth, c, D, cA, A, ag, ad0, Q, nL⟩ := X
  cases hnL
  refine ⟨ok_FR (ok_aload_n hM 0 dL_all_0 rfl),
    ok_iconst hM dL_all_1 rfl,
    ok_iconst hM dL_all_2 rfl,
    ok_PX hM (cx_lines l hl) gL_all_X6_lines rfl rfl rfl (by decide +kernel) (by decide) dL_all_3,
    ok_aload_n hM 0 dL_all_6 rfl,
    ok_iconst hM dL_all_7 rfl,
    ok_iconst hM dL_all_8 rfl,
    ok_PX hM (cx_lines l hl) gL_all_X6_lines rfl rfl rfl (by decide +kernel) (by decide) dL_all_9,
    ok_iadd hM dL_all_12,
    ok_aload_n hM 0 dL_all_13 rfl,
    ok_iconst hM dL_all_14 rfl,
    ok_iconst hM dL_all_15 rfl,
    ok_PX hM (cx_lines l hl) gL_all_X6_lines rfl rfl rfl (by decide +kernel) (by decide) dL_all_16,
    ok_iadd hM dL_all_19,
    ok_aload_n hM 0 dL_all_20 rfl,
    ok_iconst hM dL_all_21 rfl,
    ok_iconst hM dL_all_22 rfl,
    ok_PX hM (cx_lines l hl) gL_all_X6_lines rfl rfl rfl (by decide +kernel) (by decide) dL_all_23,
    ok_iadd hM dL_all_26,
    ok_PRet hM hE dL_all_27,
    trivial⟩
set_option maxRecDepth 100000 in
theorem ctL_all (l : Launch) (hl : l.stackTraces = false) : Ct l yL_all wsL_all rmL_all 4 24 false (hS s_all) := by
  refine ct_of (own := RL) (cc := cL_all) (maxL := 1) (ret := (some .int)) (by decide) rfl rfl (by rintro _ _ _ ⟨v, F, hPW, ⟨rfl, hH, hF⟩, hK⟩; exact Nat.le_of_ble_eq_true rfl) ?_
  intro X av es K hM hE hag _ hnL hsp
  obtain ⟨v, F, hPW, ⟨rfl, hH, hF⟩, hK⟩ := hsp
  have hf := kL_all hl hM hE hnL
  rw [← List.append_nil es]
  refine wr_ok hf cut_nil 9 0 _ _ _ _ _ ?_
  refine ⟨⟨by omega, by omega⟩, v, es, [], rfl, hPW, ⟨0, nI 0, rfl, by decide, fun C hPW => ?_⟩⟩
  refine ⟨⟨by omega, by omega⟩, v, C, [], rfl, hPW, ⟨1, nI 0, rfl, by decide, fun C hPW => ?_⟩⟩
  refine ⟨⟨by omega, by omega⟩, v, C, [], rfl, hPW, ⟨2, nI 0, rfl, by decide, fun C hPW => ?_⟩⟩
  refine ⟨⟨by omega, by omega⟩, v, C, [], rfl, hPW, ⟨3, nI 0, rfl, by decide, fun C hPW => ?_⟩⟩
  refine ⟨⟨by omega, by omega⟩, v, C, [], rfl, hPW, ?_⟩
  rw [← all_li hH] at hF
  exact hK _ _ _ hF hPW
def s_gains : gHS := fun av v F => ∃ t : Nat, av = [.ref 0, .int (nI t)] ∧ t < 4 ∧ F (gsM (vGa v) t) v
def rmL_gains : Room := { frames := 9, cells := 16, slots := 96, locals := 153 }
def pL_gains (K : gK) : List (Nat × gO) := [(0, oConst (nI 0)), (1, oFR 0 (oIStore 4 2)), (2, oConst (nI 0)), (3, oFR 0 (oIStore 4 3)), (4, oFR 0 (oILoad 3)), (5, oConst (nI 8)), (7, oICmp_ge 25), (10, oILoad 2), (11, oALoad 0), (12, oILoad 1), (13, oILoad 3), (14, oPX 16 96 2 12 2 p_gain), (17, oAdd), (18, oIStore 4 2), (19, oFR 0 (oIInc 4 3 (nI 1))), (22, oGoto 4), (25, oFR 0 (oILoad 2)), (26, oPRet K 16 96)]
set_option maxRecDepth 100000 in
theorem kL_gains {X : gX} {l : Launch} (hl : l.stackTraces = false) (hM : gM X l cL_gains RL wsL_gains rmL_gains) {K : gK} (hE : gR X K 16 96 (some .int)) (hnL : X.2.2.2.2.2.2.2.2.2.2.2.2.2.2.2.2 = 4) : okL X (pL_gains K) := by
  obtain ⟨p, l1, e, R, s, m, args, below, meth, c, D, cA, A, ag, ad0, Q, nL⟩ := X
  cases hnL
  refine ⟨ok_iconst hM dL_gains_0 rfl,
    ok_FR (ok_istore_n hM 2 dL_gains_1 rfl),
    ok_iconst hM dL_gains_2 rfl,
    ok_FR (ok_istore_n hM 3 dL_gains_3 rfl),
    ok_FR (ok_iload_n hM 3 dL_gains_4 rfl),
    ok_bipush hM dL_gains_5 rfl,
    ok_icmp_ge hM 25 dL_gains_7 (by decide),
    ok_iload_n hM 2 dL_gains_10 rfl,
    ok_aload_n hM 0 dL_gains_11 rfl,
    ok_iload_n hM 1 dL_gains_12 rfl,
    ok_iload_n hM 3 dL_gains_13 rfl,
    ok_PX hM (cx_gain l hl) gL_gains_X6_gain rfl rfl rfl (by decide +kernel) (by decide) dL_gains_14,
    ok_iadd hM dL_gains_17,
    ok_istore_n hM 2 dL_gains_18 rfl,
    ok_FR (ok_iinc hM 3 dL_gains_19 rfl),
    ok_goto hM 4 dL_gains_22 (by decide),
    ok_FR (ok_iload_n hM 2 dL_gains_25 rfl),
    ok_PRet hM hE dL_gains_26,
    trivial⟩
set_option maxRecDepth 100000 in
theorem ctL_gains (l : Launch) (hl : l.stackTraces = false) : Ct l yL_gains wsL_gains rmL_gains 16 96 false (hS s_gains) := by
  refine ct_of (own := RL) (cc := cL_gains) (maxL := 4) (ret := (some .int)) (by decide) rfl rfl (by rintro _ _ _ ⟨v, F, hPW, ⟨t, rfl, ht, hF⟩, hK⟩; exact Nat.le_of_ble_eq_true rfl) ?_
  intro X av es K hM hE hag _ hnL hsp
  obtain ⟨v, F, hPW, ⟨t, rfl, ht, hF⟩, hK⟩ := hsp
  have hf := kL_gains hl hM hE hnL
  rw [← List.append_nil es]
  refine g_with (X := X) 4 [0, 1, 2, 3] (fun μ vs es k n => ∃ (i : Nat) (C : List gE), μ = 8 - i ∧ i ≤ 8 ∧ PW v C ∧ vs = [.ref 0, .int (nI t), .int (sumI (fun p => vGa v (t * 8 + p)) i), .int (nI i)] ∧ es = C ++ [] ∧ k = 2 * i ∧ n = 12 * i) cut_nil (fun μ hc vs es k n hI => ?_) (fun hc => ?_)
  · obtain ⟨i, C, rfl, hi, hPW, rfl, rfl, rfl, rfl⟩ := hI
    refine g_go hf hc 30 ?_
    refine ⟨fun h => ?_, fun h => ?_⟩
    · have h8 : i = 8 := by
        rw [nI_leI (by decide) (by omega)] at h
        omega
      subst h8
      exact ⟨⟨by omega, by omega⟩, v, C, [], rfl, hPW, hK _ _ _ hF hPW⟩
    · rw [nI_leI (by decide) (by omega)] at h
      refine ⟨⟨by omega, by omega⟩, v, C, [], rfl, hPW, ⟨t, i, rfl, ht, by omega, fun C hPW => ?_⟩⟩
      exact ⟨8 - (i + 1), by omega, i + 1, C, rfl, by omega, hPW, by rw [nI_add]; rfl, rfl, by omega, by omega⟩
  · refine wr_ok hf hc 5 0 _ _ _ _ _ ?_
    exact ⟨8, 0, es, rfl, by omega, hPW, rfl, rfl, rfl, rfl⟩
def s_position : gHS := fun av v F => ∃ t a : Nat, av = [.ref 0, .int (nI t), .int (nI a)] ∧ t < 4 ∧ a < 256 ∧ a % 2 = 0 ∧ F (nI (psN (vAd v) (mqI t a) a)) v
def rmL_position : Room := { frames := 9, cells := 16, slots := 96, locals := 154 }
def pL_position (K : gK) : List (Nat × gO) := [(0, oConst (nI 0)), (1, oFR 0 (oIStore 4 3)), (2, oFR 0 (oILoad 3)), (3, oConst (nI 8)), (5, oICmp_ge 27), (8, oALoad 0), (9, oILoad 1), (10, oILoad 2), (11, oConst (nI 4)), (12, oRem), (13, oILoad 3), (14, oPX 16 96 2 12 3 p_monitored), (17, oILoad 2), (18, oICmp_eq 27), (21, oIInc 4 3 (nI 1)), (24, oGoto 2), (27, oFR 0 (oILoad 3)), (28, oPRet K 16 96)]
set_option maxRecDepth 100000 in
theorem kL_position {X : gX} {l : Launch} (hl : l.stackTraces = false) (hM : gM X l cL_position RL wsL_position rmL_position) {K : gK} (hE : gR X K 16 96 (some .int)) (hnL : X.2.2.2.2.2.2.2.2.2.2.2.2.2.2.2.2 = 4) : okL X (pL_position K) := by
  obtain ⟨p, l1, e, R, s, m, args, below, meth, c, D, cA, A, ag, ad0, Q, nL⟩ := X
  cases hnL
  refine ⟨ok_iconst hM dL_position_0 rfl,
    ok_FR (ok_istore_n hM 3 dL_position_1 rfl),
    ok_FR (ok_iload_n hM 3 dL_position_2 rfl),
    ok_bipush hM dL_position_3 rfl,
    ok_icmp_ge hM 27 dL_position_5 (by decide),
    ok_aload_n hM 0 dL_position_8 rfl,
    ok_iload_n hM 1 dL_position_9 rfl,
    ok_iload_n hM 2 dL_position_10 rfl,
    ok_iconst hM dL_position_11 rfl,
    ok_irem hM dL_position_12,
    ok_iload_n hM 3 dL_position_13 rfl,
    ok_PX hM (cx_monitored l hl) gL_position_X6_monitored rfl rfl rfl (by decide +kernel) (by decide) dL_position_14,
    ok_iload_n hM 2 dL_position_17 rfl,
    ok_icmp_eq hM 27 dL_position_18 (by decide),
    ok_iinc hM 3 dL_position_21 rfl,
    ok_goto hM 2 dL_position_24 (by decide),
    ok_FR (ok_iload_n hM 3 dL_position_27 rfl),
    ok_PRet hM hE dL_position_28,
    trivial⟩
set_option maxRecDepth 100000 in
theorem ctL_position (l : Launch) (hl : l.stackTraces = false) : Ct l yL_position wsL_position rmL_position 16 96 false (hS s_position) := by
  refine ct_of (own := RL) (cc := cL_position) (maxL := 4) (ret := (some .int)) (by decide) rfl rfl (by rintro _ _ _ ⟨v, F, hPW, ⟨t, a, rfl, ht, ha, hev, hF⟩, hK⟩; exact Nat.le_of_ble_eq_true rfl) ?_
  intro X av es K hM hE hag _ hnL hsp
  obtain ⟨v, F, hPW, ⟨t, a, rfl, ht, ha, hev, hF⟩, hK⟩ := hsp
  have hf := kL_position hl hM hE hnL
  rw [← List.append_nil es]
  refine g_with (X := X) 2 [0, 1, 2, 3] (fun μ vs es k n => ∃ (i : Nat) (C : List gE), μ = 8 - i ∧ i ≤ 8 ∧ PW v C ∧ (∀ j, j < i → ¬ vAd v (mqI t a * 8 + j) = nI a) ∧ vs = [.ref 0, .int (nI t), .int (nI a), .int (nI i)] ∧ es = C ++ [] ∧ k = 2 * i ∧ n = 12 * i) cut_nil (fun μ hc vs es k n hI => ?_) (fun hc => ?_)
  · obtain ⟨i, C, rfl, hi, hPW, hno, rfl, rfl, rfl, rfl⟩ := hI
    refine g_go hf hc 30 ?_
    refine ⟨fun h => ?_, fun h => ?_⟩
    · have h8 : i = 8 := by
        rw [nI_leI (by decide) (by omega)] at h
        omega
      subst h8
      have e : psN (vAd v) (mqI t a) a = 8 := fst1_none (fun j hj => by simpa using hno j hj)
      rw [e] at hF
      exact ⟨⟨by omega, by omega⟩, v, C, [], rfl, hPW, hK _ _ _ hF hPW⟩
    · rw [nI_leI (by decide) (by omega)] at h
      refine ⟨by decide, ?_⟩
      refine ⟨⟨by omega, by omega⟩, v, C, [], rfl, hPW, ⟨t, a % 4, i, by rw [rem4 ha], ht, by omega, by omega, fun C hPW => ?_⟩⟩
      refine ⟨fun h2 => ?_, fun h2 => ?_⟩
      · have e : psN (vAd v) (mqI t a) a = i := fst1_eq (by simpa using h2) (fun j hj => by simpa using hno j hj) (by omega)
        rw [e] at hF
        exact ⟨⟨by omega, by omega⟩, v, C, [], rfl, hPW, hK _ _ _ hF hPW⟩
      · refine ⟨8 - (i + 1), by omega, i + 1, C, rfl, by omega, hPW, fun j hj => ?_, by rw [nI_add], rfl, by omega, by omega⟩
        by_cases c : j = i
        · rw [c]
          exact h2
        · exact hno j (by omega)
  · refine wr_ok hf hc 5 0 _ _ _ _ _ ?_
    exact ⟨8, 0, es, rfl, by omega, hPW, fun j hj => absurd hj (by omega), rfl, rfl, rfl, rfl⟩
end LH1

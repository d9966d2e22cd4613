/-! PartitionedCacheModel: lines of a tenant. -/
section MM3
def lfP (R : Nat → Int32) (t : Nat) (b : Int32) : Nat → Bool := fun p => hol (hdR R) (nI t) p && (decide (b = 0) || decide (¬ R (p % 8) = nI t))
def sX7_linesOf : gS := fun av es K => ∃ x b t fs R r, av = [.ref 0, .int x, .int b] ∧ x = nI t ∧ lnOK R ∧ es = rw2 fs R r ∧ K (some (.int (nI (cnt (lfP R t b) 32)))) es
def rmX7_linesOf : Room := { frames := 0, cells := 0, slots := 0, locals := 0 }
def pX7_linesOf (K : gK) : List (Nat × gO) := [(0, oConst (nI 0)), (1, oFR 2 (oIStore 6 3)), (2, oConst (nI 0)), (3, oFR 2 (oIStore 6 4)), (5, oFR 2 (oILoad 4)), (7, oConst (nI 32)), (9, oICmp_ge 89), (12, oALoad 0), (13, oGet 7 0), (16, oConst (nI 8)), (18, oILoad 4), (20, oAdd), (21, oIALd 0), (22, oIf_lt 47), (25, oALoad 0), (26, oGet 7 0), (29, oConst (nI 8)), (31, oILoad 4), (33, oAdd), (34, oIALd 0), (35, oConst (nI 256)), (38, oDiv), (39, oILoad 1), (40, oICmp_ne 47), (43, oConst (nI 1)), (44, oGoto 48), (47, oConst (nI 0)), (48, oIStore 6 5), (50, oFR 2 (oILoad 3)), (51, oILoad 5), (53, oIf_eq 80), (56, oILoad 2), (57, oIf_eq 76), (60, oALoad 0), (61, oGet 7 0), (64, oConst (nI 0)), (65, oILoad 4), (67, oConst (nI 8)), (69, oRem), (70, oAdd), (71, oIALd 0), (72, oILoad 1), (73, oICmp_eq 80), (76, oConst (nI 1)), (77, oGoto 81), (80, oConst (nI 0)), (81, oAdd), (82, oIStore 6 3), (83, oFR 2 (oIInc 6 4 (nI 1))), (86, oGoto 5), (89, oFR 2 (oILoad 3)), (90, oRet K 0 0)]
set_option maxRecDepth 100000 in
theorem kX7_linesOf {X : gX} {l : Launch} (hM : gM X l cX7_linesOf RX7 wsX7_linesOf rmX7_linesOf) {K : gK} (hE : gR X K 0 0 (some .int)) (hnL : X.2.2.2.2.2.2.2.2.2.2.2.2.2.2.2.2 = 6) : okL X (pX7_linesOf K) := by
  obtain ⟨p, l1, e, R, s, m, args, below, meth, c, D, cA, A, ag, ad0, Q, nL⟩ := X
  cases hnL
  refine ⟨ok_iconst hM dX7_linesOf_0 rfl,
    ok_FR (ok_istore_n hM 3 dX7_linesOf_1 rfl),
    ok_iconst hM dX7_linesOf_2 rfl,
    ok_FR (ok_istore hM 4 dX7_linesOf_3),
    ok_FR (ok_iload hM 4 dX7_linesOf_5),
    ok_bipush hM dX7_linesOf_7 rfl,
    ok_icmp_ge hM 89 dX7_linesOf_9 (by decide),
    ok_aload_n hM 0 dX7_linesOf_12 rfl,
    ok_get (C := RX7) (T := TX7) (Nf := 11) hM (fun _ h => List.mem_cons_of_mem _ (List.mem_append_right _ h)) rfl 0 (by decide) (List.mem_of_getElem? (i := 1) rfl) rfl dX7_linesOf_13,
    ok_bipush hM dX7_linesOf_16 rfl,
    ok_iload hM 4 dX7_linesOf_18,
    ok_iadd hM dX7_linesOf_20,
    ok_iald hM dX7_linesOf_21,
    ok_if_lt hM 47 dX7_linesOf_22 (by decide),
    ok_aload_n hM 0 dX7_linesOf_25 rfl,
    ok_get (C := RX7) (T := TX7) (Nf := 11) hM (fun _ h => List.mem_cons_of_mem _ (List.mem_append_right _ h)) rfl 0 (by decide) (List.mem_of_getElem? (i := 1) rfl) rfl dX7_linesOf_26,
    ok_bipush hM dX7_linesOf_29 rfl,
    ok_iload hM 4 dX7_linesOf_31,
    ok_iadd hM dX7_linesOf_33,
    ok_iald hM dX7_linesOf_34,
    ok_sipush hM dX7_linesOf_35 rfl,
    ok_idiv hM dX7_linesOf_38,
    ok_iload_n hM 1 dX7_linesOf_39 rfl,
    ok_icmp_ne hM 47 dX7_linesOf_40 (by decide),
    ok_iconst hM dX7_linesOf_43 rfl,
    ok_goto hM 48 dX7_linesOf_44 (by decide),
    ok_iconst hM dX7_linesOf_47 rfl,
    ok_istore hM 5 dX7_linesOf_48,
    ok_FR (ok_iload_n hM 3 dX7_linesOf_50 rfl),
    ok_iload hM 5 dX7_linesOf_51,
    ok_if_eq hM 80 dX7_linesOf_53 (by decide),
    ok_iload_n hM 2 dX7_linesOf_56 rfl,
    ok_if_eq hM 76 dX7_linesOf_57 (by decide),
    ok_aload_n hM 0 dX7_linesOf_60 rfl,
    ok_get (C := RX7) (T := TX7) (Nf := 11) hM (fun _ h => List.mem_cons_of_mem _ (List.mem_append_right _ h)) rfl 0 (by decide) (List.mem_of_getElem? (i := 1) rfl) rfl dX7_linesOf_61,
    ok_iconst hM dX7_linesOf_64 rfl,
    ok_iload hM 4 dX7_linesOf_65,
    ok_bipush hM dX7_linesOf_67 rfl,
    ok_irem hM dX7_linesOf_69,
    ok_iadd hM dX7_linesOf_70,
    ok_iald hM dX7_linesOf_71,
    ok_iload_n hM 1 dX7_linesOf_72 rfl,
    ok_icmp_eq hM 80 dX7_linesOf_73 (by decide),
    ok_iconst hM dX7_linesOf_76 rfl,
    ok_goto hM 81 dX7_linesOf_77 (by decide),
    ok_iconst hM dX7_linesOf_80 rfl,
    ok_iadd hM dX7_linesOf_81,
    ok_istore_n hM 3 dX7_linesOf_82 rfl,
    ok_FR (ok_iinc hM 4 dX7_linesOf_83 rfl),
    ok_goto hM 5 dX7_linesOf_86 (by decide),
    ok_FR (ok_iload_n hM 3 dX7_linesOf_89 rfl),
    ok_ret hM hE dX7_linesOf_90,
    trivial⟩
set_option maxRecDepth 100000 in
theorem ctX7_linesOf (l : Launch) : Ct l yX7_linesOf wsX7_linesOf rmX7_linesOf 0 0 false sX7_linesOf := by
  refine ct_of (own := RX7) (cc := cX7_linesOf) (maxL := 6) (ret := (some .int)) (by decide) rfl rfl (by rintro _ _ _ ⟨x, b, t, fs, R, r, rfl, rfl, hln, rfl, hK⟩; exact Nat.le_of_ble_eq_true rfl) ?_
  intro X av es K hM hE hag hin hnL hsp
  obtain ⟨x, b, t, fs, R, r, rfl, rfl, hln, rfl, hK⟩ := hsp
  have hf := kX7_linesOf hM hE hnL
  refine g_with (X := X) 5 [0, 1, 2, 3, 4] (fun μ vs es k n => ∃ i : Nat, μ = 32 - i ∧ i ≤ 32 ∧ vs = [.ref 0, .int (nI t), .int b, .int (nI (cnt (lfP R t b) i)), .int (nI i)] ∧ es = rw2 fs R r ∧ k = 0 ∧ n = 0) cut_nil (fun μ hc vs es k n hI => ?_) (fun hc => ?_)
  · obtain ⟨i, rfl, hi, rfl, rfl, rfl, rfl⟩ := hI
    refine g_with (X := X) 50 [0, 1, 2, 3, 4, 5] (fun μ' vs es k n => μ' = 0 ∧ i < 32 ∧ vs = [.ref 0, .int (nI t), .int b, .int (nI (cnt (lfP R t b) i)), .int (nI i), .int (bI (hol (hdR R) (nI t) i))] ∧ es = rw2 fs R r ∧ k = 0 ∧ n = 0) hc (fun μ' hc' vs es k n hI => ?_) (fun hc' => ?_)
    · obtain ⟨rfl, h4, rfl, rfl, rfl, rfl⟩ := hI
      refine g_go hf hc' 5 ?_
      refine ⟨fun h1 => ?_, fun h1 => ?_⟩
      · have h6 : ¬ lfP R t b i = true := by
          have h2 : hol (hdR R) (nI t) i = false := bI_0.mp h1
          simp [lfP, h2]
        exact ⟨32 - (i + 1), by omega, i + 1, rfl, by omega, by rw [cnt_f h6, nI_add, nI_add]; rfl, rfl, rfl, rfl⟩
      · have h2 : hol (hdR R) (nI t) i = true := by
          cases hq : hol (hdR R) (nI t) i with
          | false => exact absurd (bI_0.mpr hq) h1
          | true => rfl
        refine ⟨fun h3 => ?_, fun h3 => ?_⟩
        · have h6 : lfP R t b i = true := by simp [lfP, h2, h3]
          exact ⟨32 - (i + 1), by omega, i + 1, rfl, by omega, by rw [cnt_t h6, nI_add, nI_add], rfl, rfl, rfl⟩
        · refine ⟨by decide, ?_⟩
          refine ⟨i % 8, by rw [pk_rem (by omega) (by decide) (by decide), nI_add, Nat.zero_add], by omega, ?_⟩
          refine ⟨fun h5 => ?_, fun h5 => ?_⟩
          · have h6 : ¬ lfP R t b i = true := by
              have h5 : R (i % 8) = nI t := h5
              simp [lfP, h3, h5]
            exact ⟨32 - (i + 1), by omega, i + 1, rfl, by omega, by rw [cnt_f h6, nI_add, nI_add]; rfl, rfl, rfl, rfl⟩
          · have h6 : lfP R t b i = true := by
              have h5 : ¬ R (i % 8) = nI t := h5
              simp [lfP, h2, h5]
            exact ⟨32 - (i + 1), by omega, i + 1, rfl, by omega, by rw [cnt_t h6, nI_add, nI_add], rfl, rfl, rfl⟩
    · refine g_go hf hc' 5 ?_
      refine ⟨fun h => ?_, fun h => ?_⟩
      · have h4 : i = 32 := by
          rw [nI_leI (by decide) (by omega)] at h
          omega
        subst h4
        exact hK
      · have h4 : i < 32 := by
          rw [nI_leI (by decide) (by omega)] at h
          omega
        have hl := ln_neg (hln i h4)
        refine ⟨8 + i, by rw [nI_add], by omega, ?_⟩
        refine ⟨fun h5 => ?_, fun h5 => ?_⟩
        · have h6 : hol (hdR R) (nI t) i = false := by
            have := hl.mp h5
            simp [hol, this]
          exact ⟨0, rfl, h4, by rw [h6]; rfl, rfl, rfl, rfl⟩
        · have h6 : ¬ hdR R i = -1 := fun q => by
            have := hl.mpr q
            first | exact h5 this | exact absurd this (Int32.not_lt.mpr h5)
          refine ⟨8 + i, by rw [nI_add], by omega, ?_⟩
          refine ⟨by decide, ?_⟩
          refine ⟨fun h7 => ?_, fun h7 => ?_⟩
          · have h8 : hol (hdR R) (nI t) i = false := by
              have h9 : ¬ hdR R i / nI 256 = nI t := h7
              simp [hol, h9]
            exact ⟨0, rfl, h4, by rw [h8]; rfl, rfl, rfl, rfl⟩
          · have h8 : hol (hdR R) (nI t) i = true := by
              have h9 : hdR R i / nI 256 = nI t := h7
              simp [hol, h9, h6]
            exact ⟨0, rfl, h4, by rw [h8]; rfl, rfl, rfl, rfl⟩
  · refine wr_ok hf hc 5 0 _ _ _ _ _ ?_
    exact ⟨32, 0, rfl, by omega, rfl, rfl, rfl, rfl⟩
def alR (R : Nat → Int32) : Nat := cnt (lfP R 0 0) 32 + cnt (lfP R 1 0) 32 + cnt (lfP R 2 0) 32 + cnt (lfP R 3 0) 32
def sX7_allLines : gS := fun av es K => ∃ fs R r, av = [.ref 0] ∧ lnOK R ∧ es = rw2 fs R r ∧ K (some (.int (nI (alR R)))) es
def rmX7_allLines : Room := { frames := 1, cells := 0, slots := 0, locals := 25 }
def pX7_allLines (K : gK) : List (Nat × gO) := [(0, oFR 2 (oALoad 0)), (1, oConst (nI 0)), (2, oConst (nI 0)), (3, oCallV0 0 0 7 2 sX7_linesOf), (6, oFR 2 (oALoad 0)), (7, oConst (nI 1)), (8, oConst (nI 0)), (9, oCallV0 0 0 7 2 sX7_linesOf), (12, oAdd), (13, oFR 2 (oALoad 0)), (14, oConst (nI 2)), (15, oConst (nI 0)), (16, oCallV0 0 0 7 2 sX7_linesOf), (19, oAdd), (20, oFR 2 (oALoad 0)), (21, oConst (nI 3)), (22, oConst (nI 0)), (23, oCallV0 0 0 7 2 sX7_linesOf), (26, oAdd), (27, oFR 2 (oRet K 0 0))]
set_option maxRecDepth 100000 in
theorem kX7_allLines {X : gX} {l : Launch} (hM : gM X l cX7_allLines RX7 wsX7_allLines rmX7_allLines) {K : gK} (hE : gR X K 0 0 (some .int)) (hnL : X.2.2.2.2.2.2.2.2.2.2.2.2.2.2.2.2 = 1) : okL X (pX7_allLines K) := by
  obtain ⟨p, l1, e, R, s, m, args, below, meth, c, D, cA, A, ag, ad0, Q, nL⟩ := X
  cases hnL
  refine ⟨ok_FR (ok_aload_n hM 0 dX7_allLines_0 rfl),
    ok_iconst hM dX7_allLines_1 rfl,
    ok_iconst hM dX7_allLines_2 rfl,
    ok_callV0 hM (ctX7_linesOf l) rfl gX7_allLines_X7_linesOf rfl rfl rfl (by decide +kernel) (by decide) dX7_allLines_3,
    ok_FR (ok_aload_n hM 0 dX7_allLines_6 rfl),
    ok_iconst hM dX7_allLines_7 rfl,
    ok_iconst hM dX7_allLines_8 rfl,
    ok_callV0 hM (ctX7_linesOf l) rfl gX7_allLines_X7_linesOf rfl rfl rfl (by decide +kernel) (by decide) dX7_allLines_9,
    ok_iadd hM dX7_allLines_12,
    ok_FR (ok_aload_n hM 0 dX7_allLines_13 rfl),
    ok_iconst hM dX7_allLines_14 rfl,
    ok_iconst hM dX7_allLines_15 rfl,
    ok_callV0 hM (ctX7_linesOf l) rfl gX7_allLines_X7_linesOf rfl rfl rfl (by decide +kernel) (by decide) dX7_allLines_16,
    ok_iadd hM dX7_allLines_19,
    ok_FR (ok_aload_n hM 0 dX7_allLines_20 rfl),
    ok_iconst hM dX7_allLines_21 rfl,
    ok_iconst hM dX7_allLines_22 rfl,
    ok_callV0 hM (ctX7_linesOf l) rfl gX7_allLines_X7_linesOf rfl rfl rfl (by decide +kernel) (by decide) dX7_allLines_23,
    ok_iadd hM dX7_allLines_26,
    ok_FR (ok_ret hM hE dX7_allLines_27),
    trivial⟩
set_option maxRecDepth 100000 in
theorem ctX7_allLines (l : Launch) : Ct l yX7_allLines wsX7_allLines rmX7_allLines 0 0 false sX7_allLines := by
  refine ct_of (own := RX7) (cc := cX7_allLines) (maxL := 1) (ret := (some .int)) (by decide) rfl rfl (by rintro _ _ _ ⟨fs, R, r, rfl, hln, rfl, hK⟩; exact Nat.le_of_ble_eq_true rfl) ?_
  intro X av es K hM hE hag hin hnL hsp
  obtain ⟨fs, R, r, rfl, hln, rfl, hK⟩ := hsp
  have hf := kX7_allLines hM hE hnL
  refine wr_ok hf cut_nil 5 0 _ _ _ _ _ ?_
  refine ⟨_, _, 0, fs, R, r, rfl, rfl, hln, rfl, ?_⟩
  refine ⟨_, _, 1, fs, R, r, rfl, rfl, hln, rfl, ?_⟩
  refine ⟨_, _, 2, fs, R, r, rfl, rfl, hln, rfl, ?_⟩
  refine ⟨_, _, 3, fs, R, r, rfl, rfl, hln, rfl, ?_⟩
  have e1 : nI (cnt (lfP R 0 (nI 0)) 32) + nI (cnt (lfP R 1 (nI 0)) 32) + nI (cnt (lfP R 2 (nI 0)) 32) + nI (cnt (lfP R 3 (nI 0)) 32) = nI (alR R) := by
    rw [nI_add, nI_add, nI_add]
    rfl
  rw [← e1] at hK
  exact hK
def sX7_placeFor : gS := fun av es K => ∃ x y t a fs R r, av = [.ref 0, .int x, .int y] ∧ x = nI t ∧ y = nI a ∧ a < 256 ∧ es = rw2 fs R r ∧ K (some (.int (oI (ptf R (hdR R) (stR R) (nI t) (a % 4 * 8) 8 0 none)))) es
def rmX7_placeFor : Room := { frames := 0, cells := 0, slots := 0, locals := 0 }
def pX7_placeFor (K : gK) : List (Nat × gO) := [(0, oConst (nI 8)), (2, oFR 2 (oILoad 2)), (3, oConst (nI 4)), (4, oRem), (5, oMul), (6, oIStore 7 3), (7, oConst (-1)), (8, oFR 2 (oIStore 7 4)), (10, oConst (nI 0)), (11, oFR 2 (oIStore 7 5)), (13, oFR 2 (oILoad 5)), (15, oConst (nI 8)), (17, oICmp_ge 100), (20, oILoad 3), (21, oILoad 5), (23, oAdd), (24, oIStore 7 6), (26, oFR 2 (oALoad 0)), (27, oGet 7 0), (30, oConst (nI 0)), (31, oILoad 5), (33, oAdd), (34, oIALd 0), (35, oILoad 1), (36, oICmp_ne 94), (39, oALoad 0), (40, oGet 7 0), (43, oConst (nI 8)), (45, oILoad 6), (47, oAdd), (48, oIALd 0), (49, oConst (-1)), (50, oICmp_ne 56), (53, oILoad 6), (55, oRet K 0 0), (56, oILoad 4), (58, oConst (-1)), (59, oICmp_eq 85), (62, oALoad 0), (63, oGet 7 0), (66, oConst (nI 40)), (68, oILoad 6), (70, oAdd), (71, oIALd 0), (72, oALoad 0), (73, oGet 7 0), (76, oConst (nI 40)), (78, oILoad 4), (80, oAdd), (81, oIALd 0), (82, oICmp_ge 90), (85, oILoad 6), (87, oGoto 92), (90, oILoad 4), (92, oIStore 7 4), (94, oFR 2 (oIInc 7 5 (nI 1))), (97, oGoto 13), (100, oFR 2 (oILoad 4)), (102, oRet K 0 0)]
set_option maxRecDepth 100000 in
theorem kX7_placeFor {X : gX} {l : Launch} (hM : gM X l cX7_placeFor RX7 wsX7_placeFor rmX7_placeFor) {K : gK} (hE : gR X K 0 0 (some .int)) (hnL : X.2.2.2.2.2.2.2.2.2.2.2.2.2.2.2.2 = 7) : okL X (pX7_placeFor K) := by
  obtain ⟨p, l1, e, R, s, m, args, below, meth, c, D, cA, A, ag, ad0, Q, nL⟩ := X
  cases hnL
  refine ⟨ok_bipush hM dX7_placeFor_0 rfl,
    ok_FR (ok_iload_n hM 2 dX7_placeFor_2 rfl),
    ok_iconst hM dX7_placeFor_3 rfl,
    ok_irem hM dX7_placeFor_4,
    ok_imul hM dX7_placeFor_5,
    ok_istore_n hM 3 dX7_placeFor_6 rfl,
    ok_iconst hM dX7_placeFor_7 rfl,
    ok_FR (ok_istore hM 4 dX7_placeFor_8),
    ok_iconst hM dX7_placeFor_10 rfl,
    ok_FR (ok_istore hM 5 dX7_placeFor_11),
    ok_FR (ok_iload hM 5 dX7_placeFor_13),
    ok_bipush hM dX7_placeFor_15 rfl,
    ok_icmp_ge hM 100 dX7_placeFor_17 (by decide),
    ok_iload_n hM 3 dX7_placeFor_20 rfl,
    ok_iload hM 5 dX7_placeFor_21,
    ok_iadd hM dX7_placeFor_23,
    ok_istore hM 6 dX7_placeFor_24,
    ok_FR (ok_aload_n hM 0 dX7_placeFor_26 rfl),
    ok_get (C := RX7) (T := TX7) (Nf := 11) hM (fun _ h => List.mem_cons_of_mem _ (List.mem_append_right _ h)) rfl 0 (by decide) (List.mem_of_getElem? (i := 1) rfl) rfl dX7_placeFor_27,
    ok_iconst hM dX7_placeFor_30 rfl,
    ok_iload hM 5 dX7_placeFor_31,
    ok_iadd hM dX7_placeFor_33,
    ok_iald hM dX7_placeFor_34,
    ok_iload_n hM 1 dX7_placeFor_35 rfl,
    ok_icmp_ne hM 94 dX7_placeFor_36 (by decide),
    ok_aload_n hM 0 dX7_placeFor_39 rfl,
    ok_get (C := RX7) (T := TX7) (Nf := 11) hM (fun _ h => List.mem_cons_of_mem _ (List.mem_append_right _ h)) rfl 0 (by decide) (List.mem_of_getElem? (i := 1) rfl) rfl dX7_placeFor_40,
    ok_bipush hM dX7_placeFor_43 rfl,
    ok_iload hM 6 dX7_placeFor_45,
    ok_iadd hM dX7_placeFor_47,
    ok_iald hM dX7_placeFor_48,
    ok_iconst hM dX7_placeFor_49 rfl,
    ok_icmp_ne hM 56 dX7_placeFor_50 (by decide),
    ok_iload hM 6 dX7_placeFor_53,
    ok_ret hM hE dX7_placeFor_55,
    ok_iload hM 4 dX7_placeFor_56,
    ok_iconst hM dX7_placeFor_58 rfl,
    ok_icmp_eq hM 85 dX7_placeFor_59 (by decide),
    ok_aload_n hM 0 dX7_placeFor_62 rfl,
    ok_get (C := RX7) (T := TX7) (Nf := 11) hM (fun _ h => List.mem_cons_of_mem _ (List.mem_append_right _ h)) rfl 0 (by decide) (List.mem_of_getElem? (i := 1) rfl) rfl dX7_placeFor_63,
    ok_bipush hM dX7_placeFor_66 rfl,
    ok_iload hM 6 dX7_placeFor_68,
    ok_iadd hM dX7_placeFor_70,
    ok_iald hM dX7_placeFor_71,
    ok_aload_n hM 0 dX7_placeFor_72 rfl,
    ok_get (C := RX7) (T := TX7) (Nf := 11) hM (fun _ h => List.mem_cons_of_mem _ (List.mem_append_right _ h)) rfl 0 (by decide) (List.mem_of_getElem? (i := 1) rfl) rfl dX7_placeFor_73,
    ok_bipush hM dX7_placeFor_76 rfl,
    ok_iload hM 4 dX7_placeFor_78,
    ok_iadd hM dX7_placeFor_80,
    ok_iald hM dX7_placeFor_81,
    ok_icmp_ge hM 90 dX7_placeFor_82 (by decide),
    ok_iload hM 6 dX7_placeFor_85,
    ok_goto hM 92 dX7_placeFor_87 (by decide),
    ok_iload hM 4 dX7_placeFor_90,
    ok_istore hM 4 dX7_placeFor_92,
    ok_FR (ok_iinc hM 5 dX7_placeFor_94 rfl),
    ok_goto hM 13 dX7_placeFor_97 (by decide),
    ok_FR (ok_iload hM 4 dX7_placeFor_100),
    ok_ret hM hE dX7_placeFor_102,
    trivial⟩
set_option maxRecDepth 100000 in
theorem ctX7_placeFor (l : Launch) : Ct l yX7_placeFor wsX7_placeFor rmX7_placeFor 0 0 false sX7_placeFor := by
  refine ct_of (own := RX7) (cc := cX7_placeFor) (maxL := 7) (ret := (some .int)) (by decide) rfl rfl (by rintro _ _ _ ⟨x, y, t, a, fs, R, r, rfl, rfl, rfl, ha, rfl, hK⟩; exact Nat.le_of_ble_eq_true rfl) ?_
  intro X av es K hM hE hag hin hnL hsp
  obtain ⟨x, y, t, a, fs, R, r, rfl, rfl, rfl, ha, rfl, hK⟩ := hsp
  have hf := kX7_placeFor hM hE hnL
  generalize hres : ptf R (hdR R) (stR R) (nI t) (a % 4 * 8) 8 0 none = res at hK
  refine g_with (X := X) 13 [0, 1, 2, 3, 4, 5] (fun μ vs es k n => ∃ (i : Nat) (old : Option Nat), μ = 8 - i ∧ i ≤ 8 ∧ res = ptf R (hdR R) (stR R) (nI t) (a % 4 * 8) (8 - i) i old ∧ (∀ o, old = some o → o < 32) ∧ vs = [.ref 0, .int (nI t), .int (nI a), .int (nI (a % 4 * 8)), .int (oI old), .int (nI i)] ∧ es = rw2 fs R r ∧ k = 0 ∧ n = 0) cut_nil (fun μ hc vs es k n hI => ?_) (fun hc => ?_)
  · obtain ⟨i, old, rfl, hi, hr, ho, rfl, rfl, rfl, rfl⟩ := hI
    have hon : oI old = -1 ↔ old = none := oI_ne (fun p hp => by have := ho p hp; omega)
    refine g_go hf hc 5 ?_
    refine ⟨fun h => ?_, fun h => ?_⟩
    · have : i = 8 := by
        rw [nI_leI (by decide) (by omega)] at h
        omega
      subst this
      rw [hr] at hK
      exact hK
    · rw [nI_leI (by decide) (by omega)] at h
      obtain ⟨d, hd8⟩ : ∃ d, 8 - i = d + 1 := ⟨8 - i - 1, by omega⟩
      have hd9 : 8 - (i + 1) = d := by omega
      rw [hd8] at hr
      refine ⟨i, by rw [nI_add, Nat.zero_add], by omega, ?_⟩
      refine ⟨fun h2 => ?_, fun h2 => ?_⟩
      · have h2 : ¬ R i = nI t := h2
        simp only [ptf, if_neg h2] at hr
        exact ⟨8 - (i + 1), by omega, i + 1, old, rfl, by omega, by rw [hr, hd9], ho, by rw [nI_add], rfl, rfl, rfl⟩
      · have h2 : R i = nI t := h2
        simp only [ptf, if_pos h2] at hr
        refine ⟨8 + (a % 4 * 8 + i), by rw [nI_add, nI_add], by omega, ?_⟩
        refine ⟨fun h3 => ?_, fun h3 => ?_⟩
        · have h3 : ¬ hdR R (a % 4 * 8 + i) = -1 := h3
          rw [if_neg h3] at hr
          refine ⟨fun h4 => ?_, fun h4 => ?_⟩
          · rw [hon] at h4
            subst h4
            refine ⟨8 - (i + 1), by omega, i + 1, some (a % 4 * 8 + i), rfl, by omega, ?_, fun o hoo => by cases hoo; omega, by rw [nI_add, nI_add]; rfl, rfl, rfl, rfl⟩
            rw [hr, hd9]
            rfl
          · obtain ⟨o, rfl⟩ : ∃ o, old = some o := by
              cases old with
              | none => exact absurd rfl h4
              | some o => exact ⟨o, rfl⟩
            have ho1 := ho o rfl
            refine ⟨40 + (a % 4 * 8 + i), by rw [nI_add, nI_add], by omega, ?_⟩
            refine ⟨40 + o, nI_add _ _, by omega, ?_⟩
            refine ⟨fun h5 => ?_, fun h5 => ?_⟩
            · refine ⟨8 - (i + 1), by omega, i + 1, some o, rfl, by omega, ?_, fun o hoo => by cases hoo; omega, by rw [nI_add], rfl, rfl, rfl⟩
              rw [hr, hd9]
              simp only [ptU, if_neg (show ¬ stR R (a % 4 * 8 + i) < stR R o from by first | exact h5 | exact Int32.not_lt.mpr h5)]
            · refine ⟨8 - (i + 1), by omega, i + 1, some (a % 4 * 8 + i), rfl, by omega, ?_, fun o hoo => by cases hoo; omega, by rw [nI_add, nI_add]; rfl, rfl, rfl, rfl⟩
              rw [hr, hd9]
              simp only [ptU, if_pos (show stR R (a % 4 * 8 + i) < stR R o from by first | exact h5 | exact Int32.not_le.mp h5)]
        · have h3 : hdR R (a % 4 * 8 + i) = -1 := h3
          rw [if_pos h3] at hr
          rw [hr, oI, ← nI_add] at hK
          exact hK
  · refine wr_ok hf hc 5 0 _ _ _ _ _ ?_
    refine ⟨by decide, ?_⟩
    have e1 : nI 8 * (nI a - nI a / nI 4 * nI 4) = nI (a % 4 * 8) := by rw [rem4 (by omega), pk_mul, Nat.mul_comm]
    exact ⟨8, 0, none, rfl, by omega, hres.symm, fun o ho => (by cases ho), by rw [e1]; rfl, rfl, rfl, rfl⟩
end MM3

/-! Places: contracts, second part. -/
section MP2
def oI : Option Nat → Int32
  | none => -1
  | some p => nI p
theorem oI_ne {o : Option Nat} (h : ∀ p, o = some p → p < 2 ^ 31) : oI o = -1 ↔ o = none := by
  cases o with
  | none => exact ⟨fun _ => rfl, fun _ => rfl⟩
  | some p =>
    refine ⟨fun h2 => ?_, fun h2 => by cases h2⟩
    have h3 : ¬ nI p < 0 := nI_pos (h p rfl)
    have h4 : nI p = -1 := h2
    rw [h4] at h3
    exact absurd (by decide) h3
def ptU (st : Nat → Int32) (q : Nat) : Option Nat → Nat
  | none => q
  | some o => if st q < st o then q else o
def ptf (ow hd st : Nat → Int32) (t : Int32) (fs : Nat) : Nat → Nat → Option Nat → Option Nat
  | 0, _, old => old
  | f + 1, w, old => if ow w = t then (if hd (fs + w) = -1 then some (fs + w) else ptf ow hd st t fs f (w + 1) (some (ptU st (fs + w) old))) else ptf ow hd st t fs f (w + 1) old
def sX3_placeToFill : gS := fun av es K => ∃ t x a ow hd st, av = [.ref 0, .int t, .int x] ∧ x = nI a ∧ a < 256 ∧ es = plE ow hd st ∧ K (some (.int (oI (ptf ow hd st t (a % 4 * 8) 8 0 none)))) es
def rmX3_placeToFill : Room := { frames := 0, cells := 0, slots := 0, locals := 0 }
def pX3_placeToFill (K : gK) : List (Nat × gO) := [(0, oF (oILoad 2)), (1, oConst (nI 4)), (2, oRem), (3, oConst (nI 8)), (5, oMul), (6, oIStore 7 3), (7, oConst (-1)), (8, oF (oIStore 7 4)), (10, oConst (nI 0)), (11, oF (oIStore 7 5)), (13, oF (oILoad 5)), (15, oConst (nI 8)), (17, oICmp_ge 87), (20, oILoad 3), (21, oILoad 5), (23, oAdd), (24, oIStore 7 6), (26, oF (oALoad 0)), (27, oGet 3 0), (30, oILoad 5), (32, oIALd 0), (33, oILoad 1), (34, oICmp_eq 40), (37, oGoto 81), (40, oALoad 0), (41, oGet 3 1), (44, oILoad 6), (46, oIALd 0), (47, oConst (-1)), (48, oICmp_ne 54), (51, oILoad 6), (53, oRet K 0 0), (54, oILoad 4), (56, oConst (-1)), (57, oICmp_eq 77), (60, oALoad 0), (61, oGet 3 2), (64, oILoad 6), (66, oIALd 0), (67, oALoad 0), (68, oGet 3 2), (71, oILoad 4), (73, oIALd 0), (74, oICmp_ge 81), (77, oILoad 6), (79, oIStore 7 4), (81, oF (oIInc 7 5 (nI 1))), (84, oGoto 13), (87, oF (oILoad 4)), (89, oRet K 0 0)]
set_option maxRecDepth 100000 in
theorem kX3_placeToFill {X : gX} {l : Launch} (hM : gM X l cX3_placeToFill RX3 wsX3_placeToFill rmX3_placeToFill) {K : gK} (hE : gR X K 0 0 (some .int)) (hnL : X.2.2.2.2.2.2.2.2.2.2.2.2.2.2.2.2 = 7) : okL X (pX3_placeToFill K) := by
  obtain ⟨p, l1, e, R, s, m, args, below, meth, c, D, cA, A, ag, ad0, Q, nL⟩ := X
  cases hnL
  refine ⟨ok_F (ok_iload_n hM 2 dX3_placeToFill_0 rfl),
    ok_iconst hM dX3_placeToFill_1 rfl,
    ok_irem hM dX3_placeToFill_2,
    ok_bipush hM dX3_placeToFill_3 rfl,
    ok_imul hM dX3_placeToFill_5,
    ok_istore_n hM 3 dX3_placeToFill_6 rfl,
    ok_iconst hM dX3_placeToFill_7 rfl,
    ok_F (ok_istore hM 4 dX3_placeToFill_8),
    ok_iconst hM dX3_placeToFill_10 rfl,
    ok_F (ok_istore hM 5 dX3_placeToFill_11),
    ok_F (ok_iload hM 5 dX3_placeToFill_13),
    ok_bipush hM dX3_placeToFill_15 rfl,
    ok_icmp_ge hM 87 dX3_placeToFill_17 (by decide),
    ok_iload_n hM 3 dX3_placeToFill_20 rfl,
    ok_iload hM 5 dX3_placeToFill_21,
    ok_iadd hM dX3_placeToFill_23,
    ok_istore hM 6 dX3_placeToFill_24,
    ok_F (ok_aload_n hM 0 dX3_placeToFill_26 rfl),
    ok_get (C := RX3) (T := TX3) (Nf := 3) hM (fun _ h => List.mem_cons_of_mem _ (List.mem_append_right _ h)) rfl 0 (by decide) (List.mem_of_getElem? (i := 1) rfl) rfl dX3_placeToFill_27,
    ok_iload hM 5 dX3_placeToFill_30,
    ok_iald hM dX3_placeToFill_32,
    ok_iload_n hM 1 dX3_placeToFill_33 rfl,
    ok_icmp_eq hM 40 dX3_placeToFill_34 (by decide),
    ok_goto hM 81 dX3_placeToFill_37 (by decide),
    ok_aload_n hM 0 dX3_placeToFill_40 rfl,
    ok_get (C := RX3) (T := TX3) (Nf := 3) hM (fun _ h => List.mem_cons_of_mem _ (List.mem_append_right _ h)) rfl 1 (by decide) (List.mem_of_getElem? (i := 2) rfl) rfl dX3_placeToFill_41,
    ok_iload hM 6 dX3_placeToFill_44,
    ok_iald hM dX3_placeToFill_46,
    ok_iconst hM dX3_placeToFill_47 rfl,
    ok_icmp_ne hM 54 dX3_placeToFill_48 (by decide),
    ok_iload hM 6 dX3_placeToFill_51,
    ok_ret hM hE dX3_placeToFill_53,
    ok_iload hM 4 dX3_placeToFill_54,
    ok_iconst hM dX3_placeToFill_56 rfl,
    ok_icmp_eq hM 77 dX3_placeToFill_57 (by decide),
    ok_aload_n hM 0 dX3_placeToFill_60 rfl,
    ok_get (C := RX3) (T := TX3) (Nf := 3) hM (fun _ h => List.mem_cons_of_mem _ (List.mem_append_right _ h)) rfl 2 (by decide) (List.mem_of_getElem? (i := 3) rfl) rfl dX3_placeToFill_61,
    ok_iload hM 6 dX3_placeToFill_64,
    ok_iald hM dX3_placeToFill_66,
    ok_aload_n hM 0 dX3_placeToFill_67 rfl,
    ok_get (C := RX3) (T := TX3) (Nf := 3) hM (fun _ h => List.mem_cons_of_mem _ (List.mem_append_right _ h)) rfl 2 (by decide) (List.mem_of_getElem? (i := 3) rfl) rfl dX3_placeToFill_68,
    ok_iload hM 4 dX3_placeToFill_71,
    ok_iald hM dX3_placeToFill_73,
    ok_icmp_ge hM 81 dX3_placeToFill_74 (by decide),
    ok_iload hM 6 dX3_placeToFill_77,
    ok_istore hM 4 dX3_placeToFill_79,
    ok_F (ok_iinc hM 5 dX3_placeToFill_81 rfl),
    ok_goto hM 13 dX3_placeToFill_84 (by decide),
    ok_F (ok_iload hM 4 dX3_placeToFill_87),
    ok_ret hM hE dX3_placeToFill_89,
    trivial⟩
set_option maxRecDepth 100000 in
theorem ctX3_placeToFill (l : Launch) : Ct l yX3_placeToFill wsX3_placeToFill rmX3_placeToFill 0 0 false sX3_placeToFill := by
  refine ct_of (own := RX3) (cc := cX3_placeToFill) (maxL := 7) (ret := (some .int)) (by decide) rfl rfl (by rintro _ _ _ ⟨t, x, a, ow, hd, st, rfl, rfl, ha, rfl, hK⟩; exact Nat.le_of_ble_eq_true rfl) ?_
  intro X av es K hM hE hag hin hnL hsp
  obtain ⟨t, x, a, ow, hd, st, rfl, rfl, ha, rfl, hK⟩ := hsp
  have hf := kX3_placeToFill hM hE hnL
  generalize hres : ptf ow hd st t (a % 4 * 8) 8 0 none = res at hK
  refine g_with (X := X) 13 [0, 1, 2, 3, 4, 5] (fun μ vs es k n => ∃ (i : Nat) (old : Option Nat), μ = 8 - i ∧ i ≤ 8 ∧ res = ptf ow hd st t (a % 4 * 8) (8 - i) i old ∧ (∀ o, old = some o → o < 32) ∧ vs = [.ref 0, .int t, .int (nI a), .int (nI (a % 4 * 8)), .int (oI old), .int (nI i)] ∧ es = plE ow hd st ∧ k = 0 ∧ n = 0) cut_nil (fun μ hc vs es k n hI => ?_) (fun hc => ?_)
  · obtain ⟨i, old, rfl, hi, hr, ho, rfl, rfl, rfl, rfl⟩ := hI
    have hon : oI old = -1 ↔ old = none := oI_ne (fun p hp => by have := ho p hp; omega)
    refine g_go hf hc 5 ?_
    refine ⟨fun h => ?_, fun h => ?_⟩
    · have : i = 8 := by
        rw [nI_leI (by decide) (by omega)] at h
        omega
      subst this
      rw [hr] at hK
      exact hK
    · rw [nI_leI (by decide) (by omega)] at h
      obtain ⟨d, hd8⟩ : ∃ d, 8 - i = d + 1 := ⟨8 - i - 1, by omega⟩
      have hd9 : 8 - (i + 1) = d := by omega
      rw [hd8] at hr
      refine ⟨i, rfl, by omega, ?_⟩
      refine ⟨fun h2 => ?_, fun h2 => ?_⟩
      · simp only [ptf, if_pos h2] at hr
        refine ⟨a % 4 * 8 + i, nI_add _ _, by omega, ?_⟩
        refine ⟨fun h3 => ?_, fun h3 => ?_⟩
        · rw [if_neg h3] at hr
          refine ⟨fun h4 => ?_, fun h4 => ?_⟩
          · rw [hon] at h4
            subst h4
            refine ⟨8 - (i + 1), by omega, i + 1, some (a % 4 * 8 + i), rfl, by omega, ?_, fun o hoo => by cases hoo; omega, by rw [nI_add, nI_add]; rfl, rfl, rfl, rfl⟩
            rw [hr, hd9]
            rfl
          · obtain ⟨o, rfl⟩ : ∃ o, old = some o := by
              cases old with
              | none => exact absurd rfl h4
              | some o => exact ⟨o, rfl⟩
            have ho1 := ho o rfl
            refine ⟨a % 4 * 8 + i, nI_add _ _, by omega, ?_⟩
            refine ⟨o, rfl, ho1, ?_⟩
            refine ⟨fun h5 => ?_, fun h5 => ?_⟩
            · refine ⟨8 - (i + 1), by omega, i + 1, some o, rfl, by omega, ?_, fun o hoo => by cases hoo; omega, by rw [nI_add], rfl, rfl, rfl⟩
              rw [hr, hd9]
              simp only [ptU, if_neg (show ¬ st (a % 4 * 8 + i) < st o from by first | exact h5 | exact Int32.not_lt.mpr h5)]
            · refine ⟨8 - (i + 1), by omega, i + 1, some (a % 4 * 8 + i), rfl, by omega, ?_, fun o hoo => by cases hoo; omega, by rw [nI_add, nI_add]; rfl, rfl, rfl, rfl⟩
              rw [hr, hd9]
              simp only [ptU, if_pos (show st (a % 4 * 8 + i) < st o from by first | exact h5 | exact Int32.not_le.mp h5)]
        · rw [if_pos h3] at hr
          rw [hr, oI, ← nI_add] at hK
          exact hK
      · simp only [ptf, if_neg h2] at hr
        refine ⟨8 - (i + 1), by omega, i + 1, old, rfl, by omega, by rw [hr, hd9], ho, by rw [nI_add], rfl, rfl, rfl⟩
  · refine wr_ok hf hc 5 0 _ _ _ _ _ ?_
    refine ⟨by decide, ?_⟩
    exact ⟨8, 0, none, rfl, by omega, hres.symm, fun o ho => (by cases ho), by rw [first4 ha]; rfl, rfl, rfl, rfl⟩
def wfl (ow : Nat → Int32) (ln : Nat → Nat) (t : Int32) : Nat → Nat → Option Nat → Nat → Option Nat
  | 0, _, b, _ => b
  | f + 1, w, b, m => if ow w = t ∧ ln w < m then wfl ow ln t f (w + 1) (some w) (ln w) else wfl ow ln t f (w + 1) b m
def sX3_wayWithFewestLines : gS := fun av es K => ∃ t ow hd st, av = [.ref 0, .int t] ∧ es = plE ow hd st ∧ K (some (.int (oI (wfl ow (lnW hd t) t 8 0 none 5)))) es
def rmX3_wayWithFewestLines : Room := { frames := 2, cells := 0, slots := 0, locals := 46 }
def pX3_wayWithFewestLines (K : gK) : List (Nat × gO) := [(0, oConst (-1)), (1, oF (oIStore 5 2)), (2, oConst (nI 5)), (3, oF (oIStore 5 3)), (4, oConst (nI 0)), (5, oF (oIStore 5 4)), (7, oF (oILoad 4)), (9, oConst (nI 8)), (11, oICmp_ge 53), (14, oALoad 0), (15, oGet 3 0), (18, oILoad 4), (20, oIALd 0), (21, oILoad 1), (22, oICmp_ne 47), (25, oALoad 0), (26, oILoad 1), (27, oILoad 4), (29, oCallV 0 0 3 2 [0,1,2,3] sX3_linesInWay), (32, oF (oILoad 3)), (33, oICmp_ge 47), (36, oILoad 4), (38, oIStore 5 2), (39, oF (oALoad 0)), (40, oILoad 1), (41, oILoad 4), (43, oCallV 0 0 3 2 [0,1,2,3] sX3_linesInWay), (46, oF (oIStore 5 3)), (47, oF (oIInc 5 4 (nI 1))), (50, oGoto 7), (53, oF (oILoad 2)), (54, oRet K 0 0)]
set_option maxRecDepth 100000 in
theorem kX3_wayWithFewestLines {X : gX} {l : Launch} (hM : gM X l cX3_wayWithFewestLines RX3 wsX3_wayWithFewestLines rmX3_wayWithFewestLines) {K : gK} (hE : gR X K 0 0 (some .int)) (hnL : X.2.2.2.2.2.2.2.2.2.2.2.2.2.2.2.2 = 5) : okL X (pX3_wayWithFewestLines K) := by
  obtain ⟨p, l1, e, R, s, m, args, below, meth, c, D, cA, A, ag, ad0, Q, nL⟩ := X
  cases hnL
  refine ⟨ok_iconst hM dX3_wayWithFewestLines_0 rfl,
    ok_F (ok_istore_n hM 2 dX3_wayWithFewestLines_1 rfl),
    ok_iconst hM dX3_wayWithFewestLines_2 rfl,
    ok_F (ok_istore_n hM 3 dX3_wayWithFewestLines_3 rfl),
    ok_iconst hM dX3_wayWithFewestLines_4 rfl,
    ok_F (ok_istore hM 4 dX3_wayWithFewestLines_5),
    ok_F (ok_iload hM 4 dX3_wayWithFewestLines_7),
    ok_bipush hM dX3_wayWithFewestLines_9 rfl,
    ok_icmp_ge hM 53 dX3_wayWithFewestLines_11 (by decide),
    ok_aload_n hM 0 dX3_wayWithFewestLines_14 rfl,
    ok_get (C := RX3) (T := TX3) (Nf := 3) hM (fun _ h => List.mem_cons_of_mem _ (List.mem_append_right _ h)) rfl 0 (by decide) (List.mem_of_getElem? (i := 1) rfl) rfl dX3_wayWithFewestLines_15,
    ok_iload hM 4 dX3_wayWithFewestLines_18,
    ok_iald hM dX3_wayWithFewestLines_20,
    ok_iload_n hM 1 dX3_wayWithFewestLines_21 rfl,
    ok_icmp_ne hM 47 dX3_wayWithFewestLines_22 (by decide),
    ok_aload_n hM 0 dX3_wayWithFewestLines_25 rfl,
    ok_iload_n hM 1 dX3_wayWithFewestLines_26 rfl,
    ok_iload hM 4 dX3_wayWithFewestLines_27,
    ok_callV hM [0,1,2,3] (ctX3_linesInWay l) rfl rfl gX3_wayWithFewestLines_X3_linesInWay rfl rfl rfl (by decide +kernel) (by decide) dX3_wayWithFewestLines_29,
    ok_F (ok_iload_n hM 3 dX3_wayWithFewestLines_32 rfl),
    ok_icmp_ge hM 47 dX3_wayWithFewestLines_33 (by decide),
    ok_iload hM 4 dX3_wayWithFewestLines_36,
    ok_istore_n hM 2 dX3_wayWithFewestLines_38 rfl,
    ok_F (ok_aload_n hM 0 dX3_wayWithFewestLines_39 rfl),
    ok_iload_n hM 1 dX3_wayWithFewestLines_40 rfl,
    ok_iload hM 4 dX3_wayWithFewestLines_41,
    ok_callV hM [0,1,2,3] (ctX3_linesInWay l) rfl rfl gX3_wayWithFewestLines_X3_linesInWay rfl rfl rfl (by decide +kernel) (by decide) dX3_wayWithFewestLines_43,
    ok_F (ok_istore_n hM 3 dX3_wayWithFewestLines_46 rfl),
    ok_F (ok_iinc hM 4 dX3_wayWithFewestLines_47 rfl),
    ok_goto hM 7 dX3_wayWithFewestLines_50 (by decide),
    ok_F (ok_iload_n hM 2 dX3_wayWithFewestLines_53 rfl),
    ok_ret hM hE dX3_wayWithFewestLines_54,
    trivial⟩
set_option maxRecDepth 100000 in
theorem ctX3_wayWithFewestLines (l : Launch) : Ct l yX3_wayWithFewestLines wsX3_wayWithFewestLines rmX3_wayWithFewestLines 0 0 false sX3_wayWithFewestLines := by
  refine ct_of (own := RX3) (cc := cX3_wayWithFewestLines) (maxL := 5) (ret := (some .int)) (by decide) rfl rfl (by rintro _ _ _ ⟨t, ow, hd, st, rfl, rfl, hK⟩; exact Nat.le_of_ble_eq_true rfl) ?_
  intro X av es K hM hE hag hin hnL hsp
  obtain ⟨t, ow, hd, st, rfl, rfl, hK⟩ := hsp
  have hf := kX3_wayWithFewestLines hM hE hnL
  generalize hres : wfl ow (lnW hd t) t 8 0 none 5 = res at hK
  refine g_with (X := X) 7 [0, 1, 2, 3, 4] (fun μ vs es k n => ∃ (i : Nat) (b : Option Nat) (m : Nat), μ = 8 - i ∧ i ≤ 8 ∧ m ≤ 5 ∧ res = wfl ow (lnW hd t) t (8 - i) i b m ∧ vs = [.ref 0, .int t, .int (oI b), .int (nI m), .int (nI i)] ∧ es = plE ow hd st ∧ k = 0 ∧ n = 0) cut_nil (fun μ hc vs es k n hI => ?_) (fun hc => ?_)
  · obtain ⟨i, b, m, rfl, hi, hm, hr, rfl, rfl, rfl, rfl⟩ := hI
    have hln := lnW_le hd t i
    refine g_go hf hc 5 ?_
    refine ⟨fun h => ?_, fun h => ?_⟩
    · have : i = 8 := by
        rw [nI_leI (by decide) (by omega)] at h
        omega
      subst this
      rw [hr] at hK
      exact hK
    · rw [nI_leI (by decide) (by omega)] at h
      obtain ⟨d, hd8⟩ : ∃ d, 8 - i = d + 1 := ⟨8 - i - 1, by omega⟩
      have hd9 : 8 - (i + 1) = d := by omega
      rw [hd8] at hr
      refine ⟨i, rfl, by omega, ?_⟩
      refine ⟨fun h2 => ?_, fun h2 => ?_⟩
      · simp only [wfl, h2, false_and, if_false] at hr
        refine ⟨8 - (i + 1), by omega, i + 1, b, m, rfl, by omega, hm, by rw [hr, hd9], by rw [nI_add], rfl, rfl, rfl⟩
      · refine ⟨t, _, i, ow, hd, st, rfl, rfl, by omega, rfl, ?_⟩
        refine ⟨fun h3 => ?_, fun h3 => ?_⟩
        · rw [nI_leI (by omega) (by omega)] at h3
          have h4 : ¬ lnW hd t i < m := by omega
          simp only [wfl, h4, and_false, if_false] at hr
          refine ⟨8 - (i + 1), by omega, i + 1, b, m, rfl, by omega, hm, by rw [hr, hd9], by rw [nI_add], rfl, rfl, rfl⟩
        · rw [nI_leI (by omega) (by omega)] at h3
          have h4 : lnW hd t i < m := by omega
          simp only [wfl, h2, h4, and_self, if_true] at hr
          refine ⟨t, _, i, ow, hd, st, rfl, rfl, by omega, rfl, ?_⟩
          refine ⟨8 - (i + 1), by omega, i + 1, some i, lnW hd t i, rfl, by omega, by omega, by rw [hr, hd9], by rw [nI_add]; rfl, rfl, rfl, rfl⟩
  · refine wr_ok hf hc 5 0 _ _ _ _ _ ?_
    exact ⟨8, 0, none, 5, rfl, by omega, by omega, hres.symm, rfl, rfl, rfl, rfl⟩
theorem cpy0 {f g : Nat → Int32} {n j : Nat} (h : j < n) : va_cpy f g 0 0 n j = f j := by
  rw [pk_cpy_in (Nat.zero_le _) (by omega)]
  simp
def sX3_copyFrom : gS := fun av es K => ∃ ow hd st ow' hd' st', av = [.ref 0, .ref 4] ∧ es = plA 0 ow hd st ++ plA 4 ow' hd' st' ∧ K none (plA 0 ow' hd' st' ++ plA 4 ow' hd' st')
def rmX3_copyFrom : Room := { frames := 1, cells := 0, slots := 0, locals := 60 }
def pX3_copyFrom (K : gK) : List (Nat × gO) := [(0, oF (oALoad 1)), (1, oGet 3 0), (4, oConst (nI 0)), (5, oALoad 0), (6, oGet 3 0), (9, oConst (nI 0)), (10, oConst (nI 8)), (12, oCopy 60), (15, oF (oALoad 1)), (16, oGet 3 1), (19, oConst (nI 0)), (20, oALoad 0), (21, oGet 3 1), (24, oConst (nI 0)), (25, oConst (nI 32)), (27, oCopy 60), (30, oF (oALoad 1)), (31, oGet 3 2), (34, oConst (nI 0)), (35, oALoad 0), (36, oGet 3 2), (39, oConst (nI 0)), (40, oConst (nI 32)), (42, oCopy 60), (45, oF (oRetV K 0 0))]
set_option maxRecDepth 100000 in
theorem kX3_copyFrom {X : gX} {l : Launch} (hM : gM X l cX3_copyFrom RX3 wsX3_copyFrom rmX3_copyFrom) {K : gK} (hE : gR X K 0 0 none) (hnL : X.2.2.2.2.2.2.2.2.2.2.2.2.2.2.2.2 = 2) : okL X (pX3_copyFrom K) := by
  obtain ⟨p, l1, e, R, s, m, args, below, meth, c, D, cA, A, ag, ad0, Q, nL⟩ := X
  cases hnL
  refine ⟨ok_F (ok_aload_n hM 1 dX3_copyFrom_0 rfl),
    ok_get (C := RX3) (T := TX3) (Nf := 3) hM (fun _ h => List.mem_cons_of_mem _ (List.mem_append_right _ h)) rfl 0 (by decide) (List.mem_of_getElem? (i := 1) rfl) rfl dX3_copyFrom_1,
    ok_iconst hM dX3_copyFrom_4 rfl,
    ok_aload_n hM 0 dX3_copyFrom_5 rfl,
    ok_get (C := RX3) (T := TX3) (Nf := 3) hM (fun _ h => List.mem_cons_of_mem _ (List.mem_append_right _ h)) rfl 0 (by decide) (List.mem_of_getElem? (i := 1) rfl) rfl dX3_copyFrom_6,
    ok_iconst hM dX3_copyFrom_9 rfl,
    ok_bipush hM dX3_copyFrom_10 rfl,
    ok_copy hM (List.mem_of_getElem? (i := 2) rfl) (List.mem_of_getElem? (i := 3) rfl) (List.mem_of_getElem? (i := 4) rfl) (List.mem_of_getElem? (i := 5) rfl) (by decide) (by decide +kernel) dX3_copyFrom_12,
    ok_F (ok_aload_n hM 1 dX3_copyFrom_15 rfl),
    ok_get (C := RX3) (T := TX3) (Nf := 3) hM (fun _ h => List.mem_cons_of_mem _ (List.mem_append_right _ h)) rfl 1 (by decide) (List.mem_of_getElem? (i := 6) rfl) rfl dX3_copyFrom_16,
    ok_iconst hM dX3_copyFrom_19 rfl,
    ok_aload_n hM 0 dX3_copyFrom_20 rfl,
    ok_get (C := RX3) (T := TX3) (Nf := 3) hM (fun _ h => List.mem_cons_of_mem _ (List.mem_append_right _ h)) rfl 1 (by decide) (List.mem_of_getElem? (i := 6) rfl) rfl dX3_copyFrom_21,
    ok_iconst hM dX3_copyFrom_24 rfl,
    ok_bipush hM dX3_copyFrom_25 rfl,
    ok_copy hM (List.mem_of_getElem? (i := 2) rfl) (List.mem_of_getElem? (i := 3) rfl) (List.mem_of_getElem? (i := 4) rfl) (List.mem_of_getElem? (i := 5) rfl) (by decide) (by decide +kernel) dX3_copyFrom_27,
    ok_F (ok_aload_n hM 1 dX3_copyFrom_30 rfl),
    ok_get (C := RX3) (T := TX3) (Nf := 3) hM (fun _ h => List.mem_cons_of_mem _ (List.mem_append_right _ h)) rfl 2 (by decide) (List.mem_of_getElem? (i := 7) rfl) rfl dX3_copyFrom_31,
    ok_iconst hM dX3_copyFrom_34 rfl,
    ok_aload_n hM 0 dX3_copyFrom_35 rfl,
    ok_get (C := RX3) (T := TX3) (Nf := 3) hM (fun _ h => List.mem_cons_of_mem _ (List.mem_append_right _ h)) rfl 2 (by decide) (List.mem_of_getElem? (i := 7) rfl) rfl dX3_copyFrom_36,
    ok_iconst hM dX3_copyFrom_39 rfl,
    ok_bipush hM dX3_copyFrom_40 rfl,
    ok_copy hM (List.mem_of_getElem? (i := 2) rfl) (List.mem_of_getElem? (i := 3) rfl) (List.mem_of_getElem? (i := 4) rfl) (List.mem_of_getElem? (i := 5) rfl) (by decide) (by decide +kernel) dX3_copyFrom_42,
    ok_F (ok_retV hM hE dX3_copyFrom_45),
    trivial⟩
set_option maxRecDepth 100000 in
theorem ctX3_copyFrom (l : Launch) : Ct l yX3_copyFrom wsX3_copyFrom rmX3_copyFrom 0 0 false sX3_copyFrom := by
  refine ct_of (own := RX3) (cc := cX3_copyFrom) (maxL := 2) (ret := none) (by decide) rfl rfl (by rintro _ _ _ ⟨ow, hd, st, ow', hd', st', rfl, rfl, hK⟩; exact Nat.le_of_ble_eq_true rfl) ?_
  intro X av es K hM hE hag hin hnL hsp
  obtain ⟨ow, hd, st, ow', hd', st', rfl, rfl, hK⟩ := hsp
  have hf := kX3_copyFrom hM (gR_eqv hE) hnL
  refine wr_ok hf cut_nil 5 0 _ _ _ _ _ ?_
  refine ⟨8, rfl, rfl, rfl, by omega, by omega, ?_⟩
  refine ⟨32, rfl, rfl, rfl, by omega, by omega, ?_⟩
  refine ⟨32, rfl, rfl, rfl, by omega, by omega, ?_⟩
  exact ⟨plA 0 ow' hd' st' ++ plA 4 ow' hd' st', ⟨rfl, ⟨rfl, rfl, fun _ h => cpy0 h⟩, ⟨rfl, rfl, fun _ h => cpy0 h⟩, ⟨rfl, rfl, fun _ h => cpy0 h⟩, rfl, ⟨rfl, rfl, fun _ _ => rfl⟩, ⟨rfl, rfl, fun _ _ => rfl⟩, ⟨rfl, rfl, fun _ _ => rfl⟩, trivial⟩, hK⟩
end MP2

/-! PartitionedCacheModel: a text's validity; a command done. -/
section MM14
variable {ch : Nat → Nat} {n : Nat}
def vaE (ch : Nat → Nat) (n q st m : Nat) : Prop := (st = 4 ∨ st = 6) ∧ fErr ch n = feR ch n (n - q) q st m ∧ (q < n → st = 4 → ¬ stgA 4 m (ch q) = 4)
theorem vaE_end {st m : Nat} (h : vaE ch n n st m) : fErr ch n = none := by
  rw [h.2.1, Nat.sub_self]
  unfold feR
  rw [if_pos h.1]
theorem vaE_semi {q st m : Nat} (h : vaE ch n q st m) (hq : q < n) (hc : ch q = 59) : fErr ch n = feR ch n (n - (q + 1)) (q + 1) 1 0 := by
  rw [h.2.1]
  refine fe_go hq ?_ (by decide) (by decide)
  rw [hc]
  rcases h.1 with rfl | rfl <;> rfl
theorem vaE_bad {q st m : Nat} (h : vaE ch n q st m) (hq : q < n) (hc : ¬ ch q = 59) : fErr ch n = some q := by
  have e0 : stgA st m (ch q) = 0 := by
    rcases h.1 with rfl | rfl
    · have := h.2.2 hq rfl
      have e : stgA 4 m (ch q) = if (48 ≤ ch q ∧ ch q ≤ 57) ∧ ¬ m = 0 ∧ m * 10 + (ch q - 48) < 256 then 4 else 0 := if_neg hc
      rw [e] at this ⊢
      by_cases c : (48 ≤ ch q ∧ ch q ≤ 57) ∧ ¬ m = 0 ∧ m * 10 + (ch q - 48) < 256
      · rw [if_pos c] at this
        exact absurd rfl this
      · rw [if_neg c]
    · show (if ch q = 59 then 1 else 0) = 0
      rw [if_neg hc]
  rw [h.2.1, fe_step hq, if_pos e0]
theorem cm_va {p k q : Nat} {nu : Int32} (h : cmOK ch n p k q nu) (hf : fErr ch n = feR ch n (n - p) p 1 0) : ∃ st m, vaE ch n q st m := by
  obtain ⟨-, -, -, st, m, h1, h2, h3, -⟩ := h
  exact ⟨st, m, h1, hf.trans h2, h3⟩
def sX7_isValid : gS := fun av es K => ∃ n ch R P S hs tg st at0 nu th r, av = [.ref 0] ∧ n ≤ 80 ∧ (∀ j, j < n → ch j < 1000) ∧ es = mdW R P S hs tg (nF ch) st (nI n) at0 nu th r ∧ (fErr ch n = none → ∀ q nu', K (some (.int (nI 1))) (mdW R P S hs tg (nF ch) st (nI n) q nu' th r)) ∧ (∀ q nu', q ≤ n → fErr ch n = some q → K (some (.int (nI 0))) (mdW R P S hs tg (nF ch) st (nI n) (nI q) nu' th r))
def rmX7_isValid : Room := { frames := 4, cells := 0, slots := 0, locals := 88 }
def pX7_isValid (K : gK) : List (Nat × gO) := [(0, oFR 7 (oALoad 0)), (1, oConst (nI 0)), (2, oPutI 7 8), (5, oFR 7 (oALoad 0)), (6, oCallV0 0 0 7 0 sX7_command), (9, oConst (-1)), (10, oFR 7 (oICmp_eq 17)), (13, oConst (nI 1)), (14, oGoto 18), (17, oConst (nI 0)), (18, oIStore 2 1), (19, oFR 7 (oILoad 1)), (20, oIf_eq 60), (23, oALoad 0), (24, oGet 7 8), (27, oALoad 0), (28, oGet 7 7), (31, oICmp_ge 60), (34, oALoad 0), (35, oConst (nI 59)), (37, oCallV0 0 0 7 1 sX7_takes), (40, oFR 7 (oIf_eq 55)), (43, oALoad 0), (44, oCallV0 0 0 7 0 sX7_command), (47, oConst (-1)), (48, oFR 7 (oICmp_eq 55)), (51, oConst (nI 1)), (52, oGoto 56), (55, oConst (nI 0)), (56, oIStore 2 1), (57, oGoto 19), (60, oFR 7 (oILoad 1)), (61, oRetZ K 0 0)]
set_option maxRecDepth 100000 in
theorem kX7_isValid {X : gX} {l : Launch} (hM : gM X l cX7_isValid RX7 wsX7_isValid rmX7_isValid) {K : gK} (hE : gR X K 0 0 (some .boolean)) (hnL : X.2.2.2.2.2.2.2.2.2.2.2.2.2.2.2.2 = 2) : okL X (pX7_isValid K) := by
  obtain ⟨p, l1, e, R, s, m, args, below, meth, c, D, cA, A, ag, ad0, Q, nL⟩ := X
  cases hnL
  refine ⟨ok_FR (ok_aload_n hM 0 dX7_isValid_0 rfl),
    ok_iconst hM dX7_isValid_1 rfl,
    ok_putI (C := RX7) (T := TX7) (Nf := 11) hM (fun _ h => List.mem_cons_of_mem _ (List.mem_append_right _ h)) tyX7 tyX7_ok nmX7 rfl 8 (by decide) (List.mem_of_getElem? (i := 1) rfl) rfl rfl (by decide +kernel) dX7_isValid_2,
    ok_FR (ok_aload_n hM 0 dX7_isValid_5 rfl),
    ok_callV0 hM (ctX7_command l) rfl gX7_isValid_X7_command rfl rfl rfl (by decide +kernel) (by decide) dX7_isValid_6,
    ok_iconst hM dX7_isValid_9 rfl,
    ok_FR (ok_icmp_eq hM 17 dX7_isValid_10 (by decide)),
    ok_iconst hM dX7_isValid_13 rfl,
    ok_goto hM 18 dX7_isValid_14 (by decide),
    ok_iconst hM dX7_isValid_17 rfl,
    ok_istore_n hM 1 dX7_isValid_18 rfl,
    ok_FR (ok_iload_n hM 1 dX7_isValid_19 rfl),
    ok_if_eq hM 60 dX7_isValid_20 (by decide),
    ok_aload_n hM 0 dX7_isValid_23 rfl,
    ok_get (C := RX7) (T := TX7) (Nf := 11) hM (fun _ h => List.mem_cons_of_mem _ (List.mem_append_right _ h)) rfl 8 (by decide) (List.mem_of_getElem? (i := 1) rfl) rfl dX7_isValid_24,
    ok_aload_n hM 0 dX7_isValid_27 rfl,
    ok_get (C := RX7) (T := TX7) (Nf := 11) hM (fun _ h => List.mem_cons_of_mem _ (List.mem_append_right _ h)) rfl 7 (by decide) (List.mem_of_getElem? (i := 2) rfl) rfl dX7_isValid_28,
    ok_icmp_ge hM 60 dX7_isValid_31 (by decide),
    ok_aload_n hM 0 dX7_isValid_34 rfl,
    ok_bipush hM dX7_isValid_35 rfl,
    ok_callV0 hM (ctX7_takes l) rfl gX7_isValid_X7_takes rfl rfl rfl (by decide +kernel) (by decide) dX7_isValid_37,
    ok_FR (ok_if_eq hM 55 dX7_isValid_40 (by decide)),
    ok_aload_n hM 0 dX7_isValid_43 rfl,
    ok_callV0 hM (ctX7_command l) rfl gX7_isValid_X7_command rfl rfl rfl (by decide +kernel) (by decide) dX7_isValid_44,
    ok_iconst hM dX7_isValid_47 rfl,
    ok_FR (ok_icmp_eq hM 55 dX7_isValid_48 (by decide)),
    ok_iconst hM dX7_isValid_51 rfl,
    ok_goto hM 56 dX7_isValid_52 (by decide),
    ok_iconst hM dX7_isValid_55 rfl,
    ok_istore_n hM 1 dX7_isValid_56 rfl,
    ok_goto hM 19 dX7_isValid_57 (by decide),
    ok_FR (ok_iload_n hM 1 dX7_isValid_60 rfl),
    ok_retZ hM hE dX7_isValid_61,
    trivial⟩
set_option maxRecDepth 100000 in
theorem ctX7_isValid (l : Launch) : Ct l yX7_isValid wsX7_isValid rmX7_isValid 0 0 false sX7_isValid := by
  refine ct_of (own := RX7) (cc := cX7_isValid) (maxL := 2) (ret := (some .boolean)) (by decide) rfl rfl (by rintro _ _ _ ⟨n, ch, R, P, S, hs, tg, st, at0, nu, th, r, rfl, hn, hch, rfl, hK1, hK0⟩; exact Nat.le_of_ble_eq_true rfl) ?_
  intro X av es K hM hE hag hin hnL hsp
  obtain ⟨n, ch, R, P, S, hs, tg, st, at0, nu, th, r, rfl, hn, hch, rfl, hK1, hK0⟩ := hsp
  have hf := kX7_isValid hM hE hnL
  refine g_with (X := X) 19 [0, 1] (fun μ vs es k n9 => ∃ (b : Bool) (q st1 m : Nat) (nu' : Int32), μ = (if b = true then n - q + 1 else 0) ∧ q ≤ n ∧ (b = true → vaE ch n q st1 m) ∧ (b = false → fErr ch n = some q) ∧ vs = [.ref 0, .int (bI b)] ∧ es = mdW R P S hs tg (nF ch) st (nI n) (nI q) nu' th r ∧ k = 0 ∧ n9 = 0) cut_nil (fun μ hc vs es k n9 hI => ?_) (fun hc => ?_)
  · obtain ⟨b, q, st1, m, nu', rfl, hq, hb1, hb0, rfl, rfl, rfl, rfl⟩ := hI
    cases b with
    | false =>
      refine g_go hf hc 9 ?_
      refine ⟨fun _ => ?_, fun h => absurd rfl h⟩
      exact ⟨by decide, hK0 q nu' hq (hb0 rfl)⟩
    | true =>
      have hva := hb1 rfl
      refine g_go hf hc 9 ?_
      refine ⟨fun h => absurd h (by decide), fun _ => ?_⟩
      refine ⟨fun h => ?_, fun h => ?_⟩
      · have h4 : q = n := by
          rw [nI_leI (by omega) (by omega)] at h
          omega
        subst h4
        exact ⟨by decide, hK1 (vaE_end hva) _ nu'⟩
      · have h4 : q < n := by
          rw [nI_leI (by omega) (by omega)] at h
          omega
        refine ⟨_, 59, n, q, ch, R, P, S, hs, tg, st, _, th, r, rfl, rfl, by decide, hn, by omega, hch, rfl, ?_⟩
        by_cases c : q < n ∧ ch q = 59
        · obtain ⟨s1, s2⟩ := tk_t c
          rw [s1, s2]
          refine ⟨fun h => absurd h (by decide), fun _ => ?_⟩
          have hfe := vaE_semi hva c.1 c.2
          refine ⟨n, q + 1, ch, R, P, S, hs, tg, st, nu', th, r, rfl, hn, h4, hch, rfl, fun q2 hq2 hf2 => ?_, fun k2 q2 nu2 hk2 hcm => ?_⟩
          · refine ⟨fun _ => ?_, fun h => absurd rfl h⟩
            exact ⟨0, by rw [if_pos rfl]; omega, false, q2, 0, 0, nu', rfl, hq2, fun h => absurd h (by decide), fun _ => hfe.trans hf2, rfl, rfl, rfl, rfl⟩
          · refine ⟨fun h => absurd h (nI_m1 (by omega)), fun _ => ?_⟩
            obtain ⟨st2, m2, hv2⟩ := cm_va hcm hfe
            have hlt := hcm.1
            exact ⟨n - q2 + 1, by rw [if_pos rfl]; have := hcm.2.1; omega, true, q2, st2, m2, nu2, rfl, hcm.2.1, fun _ => hv2, fun h => absurd h (by decide), rfl, rfl, rfl, rfl⟩
        · obtain ⟨s1, s2⟩ := tk_f c
          rw [s1, s2]
          refine ⟨fun _ => ?_, fun h => absurd rfl h⟩
          exact ⟨0, by rw [if_pos rfl]; omega, false, q, 0, 0, nu', rfl, hq, fun h => absurd h (by decide), fun _ => vaE_bad hva h4 (fun z => c ⟨h4, z⟩), rfl, rfl, rfl, rfl⟩
  · refine wr_ok hf hc 9 0 _ _ _ _ _ ?_
    refine ⟨n, 0, ch, R, P, S, hs, tg, st, nu, th, r, rfl, hn, Nat.zero_le _, hch, rfl, fun q2 hq2 hf2 => ?_, fun k2 q2 nu2 hk2 hcm => ?_⟩
    · refine ⟨fun _ => ?_, fun h => absurd rfl h⟩
      exact ⟨0, false, q2, 0, 0, nu, rfl, hq2, fun h => absurd h (by decide), fun _ => hf2, rfl, rfl, rfl, rfl⟩
    · refine ⟨fun h => absurd h (nI_m1 (by omega)), fun _ => ?_⟩
      obtain ⟨st2, m2, hv2⟩ := cm_va hcm rfl
      exact ⟨n - q2 + 1, true, q2, st2, m2, nu2, rfl, hcm.2.1, fun _ => hv2, fun h => absurd h (by decide), rfl, rfl, rfl, rfl⟩
def kdC (ch : Nat → Nat) (n i k : Nat) (nu : Int32) : Prop := (ch i = 109 ∧ k = 2) ∨ (ch i = 104 ∧ k = 3) ∨ (ch i = 102 ∧ 48 ≤ ch (i + 1) ∧ ch (i + 1) < 52 ∧ k = 4 * (ch (i + 1) - 48) + 1) ∨ (48 ≤ ch i ∧ ch i < 52 ∧ k = 4 * (ch i - 48) ∧ numN ch (n - (i + 2)) (i + 2) 0 < 256 ∧ nu = nI (numN ch (n - (i + 2)) (i + 2) 0))
def rcN (n : Nat) (ch : Nat → Nat) (i : Nat) (v : gV) : Nat := if rcR n ch i v = nI 1 then 1 else 0
def sX7_does : gS := fun av es K => ∃ x k i n ch nu v L R P S hs tg bf st ln at0 th r, av = [.ref 0, .int x] ∧ x = nI k ∧ k < 20 ∧ kdC ch n i k nu ∧ vK v ∧ (∀ t, t < 4 → vLe v t = nI (L t) ∧ L t ≤ 2) ∧ rl v R ∧ es = mdW R P S hs tg bf st ln at0 nu th r ∧ ∀ R' tg', rl (rcV L n ch i v) R' → K (some (.int (nI (rcN n ch i v)))) (mdW R' P S hs tg' bf st ln at0 nu th r)
def rmX7_does : Room := { frames := 5, cells := 0, slots := 0, locals := 123 }
def pX7_does (K : gK) : List (Nat × gO) := [(0, oConst (nI 0)), (1, oFR 7 (oIStore 3 2)), (2, oFR 7 (oILoad 1)), (3, oConst (nI 2)), (4, oICmp_ne 15), (7, oALoad 0), (8, oCallV0 0 0 7 0 sX7_move), (11, oFR 7 (oIStore 3 2)), (12, oGoto 67), (15, oFR 7 (oILoad 1)), (16, oConst (nI 3)), (17, oICmp_ne 28), (20, oALoad 0), (21, oCallV0 0 0 7 0 sX7_halve), (24, oFR 7 (oIStore 3 2)), (25, oGoto 67), (28, oFR 7 (oILoad 1)), (29, oConst (nI 4)), (30, oRem), (31, oConst (nI 1)), (32, oICmp_ne 46), (35, oALoad 0), (36, oILoad 1), (37, oConst (nI 4)), (38, oDiv), (39, oCallV0 0 0 7 1 sX7_flushes), (42, oFR 7 (oIStore 3 2)), (43, oGoto 67), (46, oFR 7 (oALoad 0)), (47, oILoad 1), (48, oConst (nI 4)), (49, oDiv), (50, oALoad 0), (51, oGet 7 9), (54, oCallV0 0 0 7 2 sX7_visits), (57, oConst (nI 1)), (58, oFR 7 (oICmp_ne 65)), (61, oConst (nI 1)), (62, oGoto 66), (65, oConst (nI 0)), (66, oRet K 0 0), (67, oConst (nI 0)), (68, oRet K 0 0)]
set_option maxRecDepth 100000 in
theorem kX7_does {X : gX} {l : Launch} (hM : gM X l cX7_does RX7 wsX7_does rmX7_does) {K : gK} (hE : gR X K 0 0 (some .int)) (hnL : X.2.2.2.2.2.2.2.2.2.2.2.2.2.2.2.2 = 3) : okL X (pX7_does K) := by
  obtain ⟨p, l1, e, R, s, m, args, below, meth, c, D, cA, A, ag, ad0, Q, nL⟩ := X
  cases hnL
  refine ⟨ok_iconst hM dX7_does_0 rfl,
    ok_FR (ok_istore_n hM 2 dX7_does_1 rfl),
    ok_FR (ok_iload_n hM 1 dX7_does_2 rfl),
    ok_iconst hM dX7_does_3 rfl,
    ok_icmp_ne hM 15 dX7_does_4 (by decide),
    ok_aload_n hM 0 dX7_does_7 rfl,
    ok_callV0 hM (ctX7_move l) rfl gX7_does_X7_move rfl rfl rfl (by decide +kernel) (by decide) dX7_does_8,
    ok_FR (ok_istore_n hM 2 dX7_does_11 rfl),
    ok_goto hM 67 dX7_does_12 (by decide),
    ok_FR (ok_iload_n hM 1 dX7_does_15 rfl),
    ok_iconst hM dX7_does_16 rfl,
    ok_icmp_ne hM 28 dX7_does_17 (by decide),
    ok_aload_n hM 0 dX7_does_20 rfl,
    ok_callV0 hM (ctX7_halve l) rfl gX7_does_X7_halve rfl rfl rfl (by decide +kernel) (by decide) dX7_does_21,
    ok_FR (ok_istore_n hM 2 dX7_does_24 rfl),
    ok_goto hM 67 dX7_does_25 (by decide),
    ok_FR (ok_iload_n hM 1 dX7_does_28 rfl),
    ok_iconst hM dX7_does_29 rfl,
    ok_irem hM dX7_does_30,
    ok_iconst hM dX7_does_31 rfl,
    ok_icmp_ne hM 46 dX7_does_32 (by decide),
    ok_aload_n hM 0 dX7_does_35 rfl,
    ok_iload_n hM 1 dX7_does_36 rfl,
    ok_iconst hM dX7_does_37 rfl,
    ok_idiv hM dX7_does_38,
    ok_callV0 hM (ctX7_flushes l) rfl gX7_does_X7_flushes rfl rfl rfl (by decide +kernel) (by decide) dX7_does_39,
    ok_FR (ok_istore_n hM 2 dX7_does_42 rfl),
    ok_goto hM 67 dX7_does_43 (by decide),
    ok_FR (ok_aload_n hM 0 dX7_does_46 rfl),
    ok_iload_n hM 1 dX7_does_47 rfl,
    ok_iconst hM dX7_does_48 rfl,
    ok_idiv hM dX7_does_49,
    ok_aload_n hM 0 dX7_does_50 rfl,
    ok_get (C := RX7) (T := TX7) (Nf := 11) hM (fun _ h => List.mem_cons_of_mem _ (List.mem_append_right _ h)) rfl 9 (by decide) (List.mem_of_getElem? (i := 1) rfl) rfl dX7_does_51,
    ok_callV0 hM (ctX7_visits l) rfl gX7_does_X7_visits rfl rfl rfl (by decide +kernel) (by decide) dX7_does_54,
    ok_iconst hM dX7_does_57 rfl,
    ok_FR (ok_icmp_ne hM 65 dX7_does_58 (by decide)),
    ok_iconst hM dX7_does_61 rfl,
    ok_goto hM 66 dX7_does_62 (by decide),
    ok_iconst hM dX7_does_65 rfl,
    ok_ret hM hE dX7_does_66,
    ok_iconst hM dX7_does_67 rfl,
    ok_ret hM hE dX7_does_68,
    trivial⟩
set_option maxRecDepth 100000 in
theorem ctX7_does (l : Launch) : Ct l yX7_does wsX7_does rmX7_does 0 0 false sX7_does := by
  refine ct_of (own := RX7) (cc := cX7_does) (maxL := 3) (ret := (some .int)) (by decide) rfl rfl (by rintro _ _ _ ⟨x, k, i, n, ch, nu, v, L, R, P, S, hs, tg, bf, st, ln, at0, th, r, rfl, rfl, hk20, hkd, hk, hL, hrl, rfl, hK⟩; exact Nat.le_of_ble_eq_true rfl) ?_
  intro X av es K hM hE hag hin hnL hsp
  obtain ⟨x, k, i, n, ch, nu, v, L, R, P, S, hs, tg, bf, st, ln, at0, th, r, rfl, rfl, hk20, hkd, hk, hL, hrl, rfl, hK⟩ := hsp
  have hf := kX7_does hM hE hnL
  have em : nI k - nI k / nI 4 * nI 4 = nI (k % 4) := rem4 (by omega)
  have ed : nI k / nI 4 = nI (k / 4) := pk_div (by omega) (by decide) (by decide)
  unfold rcN rcR rcV at hK
  rcases hkd with ⟨h1, rfl⟩ | ⟨h1, rfl⟩ | ⟨h1, h2, h3, h4⟩ | ⟨h2, h3, h4, h5, rfl⟩
  · rw [if_pos h1, if_pos h1, if_neg (by decide)] at hK
    refine wr_ok hf cut_nil 9 0 _ _ _ _ _ ?_
    refine ⟨fun h => absurd rfl h, fun _ => ?_⟩
    refine ⟨L, R, P, S, hs, tg, bf, st, ln, at0, nu, th, r, rfl, fun u hu => by rw [hrl.2.2.2.2.2.1 u hu]; exact hL u hu, rl_ln hk hrl, fun q => ?_, rfl, ?_⟩
    · rw [rl_dR hrl] at q
      rw [rl_mvWR hrl]
      exact mv_some hk hL q
    · exact hK _ _ (rl_mv hrl L)
  · rw [if_neg (show ¬ ch i = 109 by omega), if_pos h1, if_neg (show ¬ ch i = 109 by omega), if_pos h1, if_neg (by decide)] at hK
    refine wr_ok hf cut_nil 9 0 _ _ _ _ _ ?_
    refine ⟨fun _ => ?_, fun h => absurd h (by decide)⟩
    refine ⟨fun h => absurd rfl h, fun _ => ?_⟩
    refine ⟨_, R, _, rfl, rfl, ?_⟩
    exact hK _ tg (rl_hv hrl)
  · rw [if_neg (show ¬ ch i = 109 by omega), if_neg (show ¬ ch i = 104 by omega), if_pos h1, if_neg (show ¬ ch i = 109 by omega), if_neg (show ¬ ch i = 104 by omega), if_pos h1, if_neg (by decide)] at hK
    have q1 : ¬ nI k = nI 2 := fun q => by
      rw [nI_eq (by omega) (by decide)] at q
      omega
    have q2 : ¬ nI k = nI 3 := fun q => by
      rw [nI_eq (by omega) (by decide)] at q
      omega
    have e4 : k % 4 = 1 := by omega
    have e5 : k / 4 = ch (i + 1) - 48 := by omega
    refine wr_ok hf cut_nil 9 0 _ _ _ _ _ ?_
    refine ⟨fun _ => ?_, fun h => absurd h q1⟩
    refine ⟨fun _ => ?_, fun h => absurd h q2⟩
    refine ⟨by decide, ?_⟩
    rw [em, e4]
    refine ⟨fun h => absurd rfl h, fun _ => ?_⟩
    refine ⟨by decide, ?_⟩
    refine ⟨_, ch (i + 1) - 48, _, R, _, rfl, by rw [ed, e5], rl_ln hk hrl, rfl, ?_⟩
    exact hK _ tg (rl_rm hrl (ch (i + 1) - 48))
  · rw [if_neg (show ¬ ch i = 109 by omega), if_neg (show ¬ ch i = 104 by omega), if_neg (show ¬ ch i = 102 by omega), if_neg (show ¬ ch i = 109 by omega), if_neg (show ¬ ch i = 104 by omega), if_neg (show ¬ ch i = 102 by omega)] at hK
    have q1 : ¬ nI k = nI 2 := fun q => by
      rw [nI_eq (by omega) (by decide)] at q
      omega
    have q2 : ¬ nI k = nI 3 := fun q => by
      rw [nI_eq (by omega) (by decide)] at q
      omega
    have e4 : k % 4 = 0 := by omega
    have e5 : k / 4 = ch i - 48 := by omega
    have hr2 : acR v (ch i - 48) (numN ch (n - (i + 2)) (i + 2) 0) ≤ 2 := rsl_le _ _ _ _
    refine wr_ok hf cut_nil 9 0 _ _ _ _ _ ?_
    refine ⟨fun _ => ?_, fun h => absurd h q1⟩
    refine ⟨fun _ => ?_, fun h => absurd h q2⟩
    refine ⟨by decide, ?_⟩
    rw [em, e4]
    refine ⟨fun _ => ?_, fun h => absurd h (by decide)⟩
    refine ⟨by decide, ?_⟩
    refine ⟨_, _, ch i - 48, numN ch (n - (i + 2)) (i + 2) 0, v, L, R, P, S, hs, tg, bf, st, ln, at0, _, th, r, rfl, by rw [ed, e5], rfl, by omega, h5, hk, hL, hrl, rfl, fun R' tg' hR' => ?_⟩
    have hK := hK R' tg' hR'
    refine ⟨fun h => ?_, fun h => ?_⟩
    · rw [if_neg h] at hK
      exact hK
    · have h : nI (acR v (ch i - 48) (numN ch (n - (i + 2)) (i + 2) 0)) = nI 1 := h
      rw [if_pos h] at hK
      exact hK
end MM14

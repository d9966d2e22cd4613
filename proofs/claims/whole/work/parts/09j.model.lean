/-! PartitionedCacheModel: a way moved. -/
section MM10
abbrev dR (L : Nat → Nat) (R : Nat → Int32) : Nat → Int32 := dfc (tgt L (gaR R)) R
def mvWR (L : Nat → Nat) (R : Nat → Int32) : Option Nat := if dR L R (amax (dR L R) 3) = 0 then none else wfl R (lnW (hdR R) (nI (amin (dR L R) 3))) (nI (amin (dR L R) 3)) 8 0 none 5
def mvR (L : Nat → Nat) (R : Nat → Int32) : Nat → Int32 := match mvWR L R with
  | none => R
  | some p => upd R p (nI (amax (dR L R) 3))
def sX7_move : gS := fun av es K => ∃ L R P S hs tg bf st ln at0 nu th r, av = [.ref 0] ∧ (∀ t, t < 4 → R (184 + t) = nI (L t) ∧ L t ≤ 2) ∧ lnOK R ∧ (¬ dR L R (amax (dR L R) 3) = 0 → ¬ mvWR L R = none) ∧ es = mdW R P S hs tg bf st ln at0 nu th r ∧ K (some (.int (oI (mvWR L R)))) (mdW (mvR L R) P S hs (nF (tgt L (gaR R))) bf st ln at0 nu th r)
def rmX7_move : Room := { frames := 3, cells := 0, slots := 0, locals := 74 }
def pX7_move (K : gK) : List (Nat × gO) := [(0, oFR 7 (oALoad 0)), (1, oCallV0 0 0 7 0 sX7_findTargets), (4, oConst (nI 0)), (5, oFR 7 (oIStore 6 1)), (6, oConst (nI 0)), (7, oFR 7 (oIStore 6 2)), (8, oConst (nI 1)), (9, oFR 7 (oIStore 6 3)), (10, oFR 7 (oILoad 3)), (11, oConst (nI 4)), (12, oICmp_ge 59), (15, oALoad 0), (16, oILoad 3), (17, oCallV0 0 0 7 1 sX7_deficit), (20, oFR 7 (oALoad 0)), (21, oILoad 1), (22, oCallV0 0 0 7 1 sX7_deficit), (25, oFR 7 (oICmp_le 32)), (28, oILoad 3), (29, oGoto 33), (32, oILoad 1), (33, oIStore 6 1), (34, oFR 7 (oALoad 0)), (35, oILoad 3), (36, oCallV0 0 0 7 1 sX7_deficit), (39, oFR 7 (oALoad 0)), (40, oILoad 2), (41, oCallV0 0 0 7 1 sX7_deficit), (44, oFR 7 (oICmp_ge 51)), (47, oILoad 3), (48, oGoto 52), (51, oILoad 2), (52, oIStore 6 2), (53, oFR 7 (oIInc 6 3 (nI 1))), (56, oGoto 10), (59, oFR 7 (oALoad 0)), (60, oILoad 1), (61, oCallV0 0 0 7 1 sX7_deficit), (64, oFR 7 (oIf_ne 69)), (67, oConst (-1)), (68, oRet K 0 0), (69, oConst (-1)), (70, oIStore 6 3), (71, oConst (nI 0)), (72, oFR 7 (oIStore 6 4)), (74, oFR 7 (oILoad 4)), (76, oConst (nI 8)), (78, oICmp_ge 140), (81, oALoad 0), (82, oGet 7 0), (85, oConst (nI 0)), (86, oILoad 4), (88, oAdd), (89, oIALd 0), (90, oILoad 2), (91, oICmp_ne 119), (94, oILoad 3), (95, oConst (-1)), (96, oICmp_eq 115), (99, oALoad 0), (100, oILoad 2), (101, oILoad 4), (103, oCallV0 0 0 7 2 sX7_linesIn), (106, oFR 7 (oALoad 0)), (107, oILoad 2), (108, oILoad 3), (109, oCallV0 0 0 7 2 sX7_linesIn), (112, oFR 7 (oICmp_ge 119)), (115, oConst (nI 1)), (116, oGoto 120), (119, oConst (nI 0)), (120, oIStore 6 5), (122, oFR 7 (oILoad 5)), (124, oIf_eq 132), (127, oILoad 4), (129, oGoto 133), (132, oILoad 3), (133, oIStore 6 3), (134, oFR 7 (oIInc 6 4 (nI 1))), (137, oGoto 74), (140, oFR 7 (oALoad 0)), (141, oGet 7 0), (144, oConst (nI 0)), (145, oILoad 3), (146, oAdd), (147, oILoad 1), (148, oIASt), (149, oFR 7 (oILoad 3)), (150, oRet K 0 0)]
set_option maxRecDepth 100000 in
theorem kX7_move {X : gX} {l : Launch} (hM : gM X l cX7_move RX7 wsX7_move rmX7_move) {K : gK} (hE : gR X K 0 0 (some .int)) (hnL : X.2.2.2.2.2.2.2.2.2.2.2.2.2.2.2.2 = 6) : okL X (pX7_move K) := by
  obtain ⟨p, l1, e, R, s, m, args, below, meth, c, D, cA, A, ag, ad0, Q, nL⟩ := X
  cases hnL
  refine ⟨ok_FR (ok_aload_n hM 0 dX7_move_0 rfl),
    ok_callV0 hM (ctX7_findTargets l) rfl gX7_move_X7_findTargets rfl rfl rfl (by decide +kernel) (by decide) dX7_move_1,
    ok_iconst hM dX7_move_4 rfl,
    ok_FR (ok_istore_n hM 1 dX7_move_5 rfl),
    ok_iconst hM dX7_move_6 rfl,
    ok_FR (ok_istore_n hM 2 dX7_move_7 rfl),
    ok_iconst hM dX7_move_8 rfl,
    ok_FR (ok_istore_n hM 3 dX7_move_9 rfl),
    ok_FR (ok_iload_n hM 3 dX7_move_10 rfl),
    ok_iconst hM dX7_move_11 rfl,
    ok_icmp_ge hM 59 dX7_move_12 (by decide),
    ok_aload_n hM 0 dX7_move_15 rfl,
    ok_iload_n hM 3 dX7_move_16 rfl,
    ok_callV0 hM (ctX7_deficit l) rfl gX7_move_X7_deficit rfl rfl rfl (by decide +kernel) (by decide) dX7_move_17,
    ok_FR (ok_aload_n hM 0 dX7_move_20 rfl),
    ok_iload_n hM 1 dX7_move_21 rfl,
    ok_callV0 hM (ctX7_deficit l) rfl gX7_move_X7_deficit rfl rfl rfl (by decide +kernel) (by decide) dX7_move_22,
    ok_FR (ok_icmp_le hM 32 dX7_move_25 (by decide)),
    ok_iload_n hM 3 dX7_move_28 rfl,
    ok_goto hM 33 dX7_move_29 (by decide),
    ok_iload_n hM 1 dX7_move_32 rfl,
    ok_istore_n hM 1 dX7_move_33 rfl,
    ok_FR (ok_aload_n hM 0 dX7_move_34 rfl),
    ok_iload_n hM 3 dX7_move_35 rfl,
    ok_callV0 hM (ctX7_deficit l) rfl gX7_move_X7_deficit rfl rfl rfl (by decide +kernel) (by decide) dX7_move_36,
    ok_FR (ok_aload_n hM 0 dX7_move_39 rfl),
    ok_iload_n hM 2 dX7_move_40 rfl,
    ok_callV0 hM (ctX7_deficit l) rfl gX7_move_X7_deficit rfl rfl rfl (by decide +kernel) (by decide) dX7_move_41,
    ok_FR (ok_icmp_ge hM 51 dX7_move_44 (by decide)),
    ok_iload_n hM 3 dX7_move_47 rfl,
    ok_goto hM 52 dX7_move_48 (by decide),
    ok_iload_n hM 2 dX7_move_51 rfl,
    ok_istore_n hM 2 dX7_move_52 rfl,
    ok_FR (ok_iinc hM 3 dX7_move_53 rfl),
    ok_goto hM 10 dX7_move_56 (by decide),
    ok_FR (ok_aload_n hM 0 dX7_move_59 rfl),
    ok_iload_n hM 1 dX7_move_60 rfl,
    ok_callV0 hM (ctX7_deficit l) rfl gX7_move_X7_deficit rfl rfl rfl (by decide +kernel) (by decide) dX7_move_61,
    ok_FR (ok_if_ne hM 69 dX7_move_64 (by decide)),
    ok_iconst hM dX7_move_67 rfl,
    ok_ret hM hE dX7_move_68,
    ok_iconst hM dX7_move_69 rfl,
    ok_istore_n hM 3 dX7_move_70 rfl,
    ok_iconst hM dX7_move_71 rfl,
    ok_FR (ok_istore hM 4 dX7_move_72),
    ok_FR (ok_iload hM 4 dX7_move_74),
    ok_bipush hM dX7_move_76 rfl,
    ok_icmp_ge hM 140 dX7_move_78 (by decide),
    ok_aload_n hM 0 dX7_move_81 rfl,
    ok_get (C := RX7) (T := TX7) (Nf := 11) hM (fun _ h => List.mem_cons_of_mem _ (List.mem_append_right _ h)) rfl 0 (by decide) (List.mem_of_getElem? (i := 1) rfl) rfl dX7_move_82,
    ok_iconst hM dX7_move_85 rfl,
    ok_iload hM 4 dX7_move_86,
    ok_iadd hM dX7_move_88,
    ok_iald hM dX7_move_89,
    ok_iload_n hM 2 dX7_move_90 rfl,
    ok_icmp_ne hM 119 dX7_move_91 (by decide),
    ok_iload_n hM 3 dX7_move_94 rfl,
    ok_iconst hM dX7_move_95 rfl,
    ok_icmp_eq hM 115 dX7_move_96 (by decide),
    ok_aload_n hM 0 dX7_move_99 rfl,
    ok_iload_n hM 2 dX7_move_100 rfl,
    ok_iload hM 4 dX7_move_101,
    ok_callV0 hM (ctX7_linesIn l) rfl gX7_move_X7_linesIn rfl rfl rfl (by decide +kernel) (by decide) dX7_move_103,
    ok_FR (ok_aload_n hM 0 dX7_move_106 rfl),
    ok_iload_n hM 2 dX7_move_107 rfl,
    ok_iload_n hM 3 dX7_move_108 rfl,
    ok_callV0 hM (ctX7_linesIn l) rfl gX7_move_X7_linesIn rfl rfl rfl (by decide +kernel) (by decide) dX7_move_109,
    ok_FR (ok_icmp_ge hM 119 dX7_move_112 (by decide)),
    ok_iconst hM dX7_move_115 rfl,
    ok_goto hM 120 dX7_move_116 (by decide),
    ok_iconst hM dX7_move_119 rfl,
    ok_istore hM 5 dX7_move_120,
    ok_FR (ok_iload hM 5 dX7_move_122),
    ok_if_eq hM 132 dX7_move_124 (by decide),
    ok_iload hM 4 dX7_move_127,
    ok_goto hM 133 dX7_move_129 (by decide),
    ok_iload_n hM 3 dX7_move_132 rfl,
    ok_istore_n hM 3 dX7_move_133 rfl,
    ok_FR (ok_iinc hM 4 dX7_move_134 rfl),
    ok_goto hM 74 dX7_move_137 (by decide),
    ok_FR (ok_aload_n hM 0 dX7_move_140 rfl),
    ok_get (C := RX7) (T := TX7) (Nf := 11) hM (fun _ h => List.mem_cons_of_mem _ (List.mem_append_right _ h)) rfl 0 (by decide) (List.mem_of_getElem? (i := 1) rfl) rfl dX7_move_141,
    ok_iconst hM dX7_move_144 rfl,
    ok_iload_n hM 3 dX7_move_145 rfl,
    ok_iadd hM dX7_move_146,
    ok_iload_n hM 1 dX7_move_147 rfl,
    ok_iast hM dX7_move_148,
    ok_FR (ok_iload_n hM 3 dX7_move_149 rfl),
    ok_ret hM hE dX7_move_150,
    trivial⟩
set_option maxRecDepth 100000 in
theorem ctX7_move (l : Launch) : Ct l yX7_move wsX7_move rmX7_move 0 0 false sX7_move := by
  refine ct_of (own := RX7) (cc := cX7_move) (maxL := 6) (ret := (some .int)) (by decide) rfl rfl (by rintro _ _ _ ⟨L, R, P, S, hs, tg, bf, st, ln, at0, nu, th, r, rfl, hL, hln, hmv, rfl, hK⟩; exact Nat.le_of_ble_eq_true rfl) ?_
  intro X av es K hM hE hag hin hnL hsp
  obtain ⟨L, R, P, S, hs, tg, bf, st, ln, at0, nu, th, r, rfl, hL, hln, hmv, rfl, hK⟩ := hsp
  have hf := kX7_move hM hE hnL
  have hm := amax_le (dR L R) 3
  have hm2 := amin_le (dR L R) 3
  have e1 : ∀ t, nF (tgt L (gaR R)) t - nI (fOwn R (nI t)) = dR L R t := fun t => rfl
  generalize hrec : amax (dR L R) 3 = rc at hm hmv hK
  generalize hdon : amin (dR L R) 3 = dn at hm2
  refine g_with (X := X) 74 [0, 1, 2, 3, 4] (fun μ vs es k n => ∃ (w : Nat) (b : Option Nat) (m : Nat), μ = 8 - w ∧ w ≤ 8 ∧ ¬ dR L R rc = 0 ∧ (b = none → m = 5) ∧ (∀ o, b = some o → o < 8 ∧ m = lnW (hdR R) (nI dn) o) ∧ mvWR L R = wfl R (lnW (hdR R) (nI dn)) (nI dn) (8 - w) w b m ∧ vs = [.ref 0, .int (nI rc), .int (nI dn), .int (oI b), .int (nI w)] ∧ es = mdW R P S hs (nF (tgt L (gaR R))) bf st ln at0 nu th r ∧ k = 0 ∧ n = 0) cut_nil (fun μ hc vs es k n hI => ?_) (fun hc0 => ?_)
  · obtain ⟨w, b, m, rfl, hw, hne, hbn, hbs, hr, rfl, rfl, rfl, rfl⟩ := hI
    have hon : oI b = -1 ↔ b = none := oI_ne (fun p hp => by have := (hbs p hp).1; omega)
    refine g_go hf hc 5 ?_
    refine ⟨fun h => ?_, fun h => ?_⟩
    · have h4 : w = 8 := by
        rw [nI_leI (by decide) (by omega)] at h
        omega
      subst h4
      have hr2 : mvWR L R = b := hr
      obtain ⟨p, hp⟩ : ∃ p, b = some p := by
        cases hq : b with
        | none => exact absurd (hr2.trans hq) (hmv hne)
        | some p => exact ⟨p, rfl⟩
      subst hp
      have hp8 := (hbs p rfl).1
      unfold mvR at hK
      rw [hr2, hrec] at hK
      refine ⟨p, by show nI 0 + nI p = nI p; rw [nI_add, Nat.zero_add], by omega, ?_⟩
      exact hK
    · have h4 : w < 8 := by
        rw [nI_leI (by decide) (by omega)] at h
        omega
      obtain ⟨d, hd⟩ : ∃ d, 8 - w = d + 1 := ⟨8 - w - 1, by omega⟩
      have hd9 : 8 - (w + 1) = d := by omega
      have hl4 : lnW (hdR R) (nI dn) w ≤ 4 := cnt_le _ 4
      rw [hd, wfl] at hr
      refine ⟨w, by rw [nI_add, Nat.zero_add], by omega, ?_⟩
      refine ⟨fun h1 => ?_, fun h1 => ?_⟩
      · have h1 : ¬ R w = nI dn := h1
        rw [if_neg (fun z => h1 z.1)] at hr
        refine ⟨fun _ => ?_, fun h => absurd (by decide) h⟩
        exact ⟨8 - (w + 1), by omega, w + 1, b, m, rfl, by omega, hne, hbn, hbs, by rw [hd9]; exact hr, by rw [nI_add], rfl, rfl, rfl⟩
      · have h1 : R w = nI dn := h1
        refine ⟨fun h2 => ?_, fun h2 => ?_⟩
        · have h3 := hbn (hon.mp h2)
          rw [if_pos ⟨h1, by omega⟩] at hr
          refine ⟨fun h => absurd h (by decide), fun _ => ?_⟩
          exact ⟨8 - (w + 1), by omega, w + 1, some w, _, rfl, by omega, hne, fun hq => (by cases hq), fun o ho => (by cases ho; exact ⟨h4, rfl⟩), by rw [hd9]; exact hr, by rw [nI_add]; rfl, rfl, rfl, rfl⟩
        · obtain ⟨o, rfl⟩ : ∃ o, b = some o := by
            cases hq : b with
            | none => exact absurd (hon.mpr hq) h2
            | some p => exact ⟨p, rfl⟩
          obtain ⟨ho8, hm5⟩ := hbs o rfl
          have hlo : lnW (hdR R) (nI dn) o ≤ 4 := cnt_le _ 4
          refine ⟨_, _, dn, w, _, R, _, rfl, rfl, rfl, h4, hln, rfl, ?_⟩
          refine ⟨_, _, dn, o, _, R, _, rfl, rfl, rfl, ho8, hln, rfl, ?_⟩
          refine ⟨fun h5 => ?_, fun h5 => ?_⟩
          · rw [nI_leI (by omega) (by omega)] at h5
            rw [if_neg (fun z => by have := z.2; omega)] at hr
            refine ⟨fun _ => ?_, fun h => absurd (by decide) h⟩
            exact ⟨8 - (w + 1), by omega, w + 1, some o, m, rfl, by omega, hne, hbn, hbs, by rw [hd9]; exact hr, by rw [nI_add], rfl, rfl, rfl⟩
          · rw [nI_leI (by omega) (by omega)] at h5
            rw [if_pos ⟨h1, by omega⟩] at hr
            refine ⟨fun h => absurd h (by decide), fun _ => ?_⟩
            exact ⟨8 - (w + 1), by omega, w + 1, some w, _, rfl, by omega, hne, fun hq => (by cases hq), fun o ho => (by cases ho; exact ⟨h4, rfl⟩), by rw [hd9]; exact hr, by rw [nI_add]; rfl, rfl, rfl, rfl⟩
  · refine g_with (X := X) 10 [0, 1, 2, 3] (fun μ vs es k n => ∃ i : Nat, μ = 4 - i ∧ 1 ≤ i ∧ i ≤ 4 ∧ vs = [.ref 0, .int (nI (amax (dR L R) (i - 1))), .int (nI (amin (dR L R) (i - 1))), .int (nI i)] ∧ es = mdW R P S hs (nF (tgt L (gaR R))) bf st ln at0 nu th r ∧ k = 0 ∧ n = 0) hc0 (fun μ hc vs es k n hI => ?_) (fun hc => ?_)
    · obtain ⟨i, rfl, hi1, hi, rfl, rfl, rfl, rfl⟩ := hI
      refine g_with (X := X) 34 [0, 1, 2, 3] (fun μ' vs es k n => μ' = 0 ∧ i < 4 ∧ vs = [.ref 0, .int (nI (amax (dR L R) i)), .int (nI (amin (dR L R) (i - 1))), .int (nI i)] ∧ es = mdW R P S hs (nF (tgt L (gaR R))) bf st ln at0 nu th r ∧ k = 0 ∧ n = 0) hc (fun μ' hc' vs es k n hI => ?_) (fun hc' => ?_)
      · obtain ⟨rfl, h4, rfl, rfl, rfl, rfl⟩ := hI
        obtain ⟨d, rfl⟩ : ∃ d, i = d + 1 := ⟨i - 1, by omega⟩
        have hb := amin_le (dR L R) d
        simp only [Nat.add_sub_cancel]
        refine g_go hf hc' 5 ?_
        refine ⟨_, d + 1, R, P, S, hs, _, bf, st, ln, at0, nu, th, r, rfl, rfl, by omega, rfl, ?_⟩
        refine ⟨_, amin (dR L R) d, R, P, S, hs, _, bf, st, ln, at0, nu, th, r, rfl, rfl, by omega, rfl, ?_⟩
        rw [e1, e1]
        refine ⟨fun h7 => ?_, fun h7 => ?_⟩
        · have h8 : ¬ dR L R (d + 1) < dR L R (amin (dR L R) d) := by first | exact h7 | exact Int32.not_lt.mpr h7
          exact ⟨4 - (d + 1 + 1), by omega, d + 1 + 1, rfl, by omega, by omega, by rw [nI_add]; simp only [Nat.add_sub_cancel, amin, if_neg h8], rfl, rfl, rfl⟩
        · have h8 : dR L R (d + 1) < dR L R (amin (dR L R) d) := by first | exact h7 | exact Int32.not_le.mp h7
          exact ⟨4 - (d + 1 + 1), by omega, d + 1 + 1, rfl, by omega, by omega, by rw [nI_add]; simp only [Nat.add_sub_cancel, amin, if_pos h8], rfl, rfl, rfl⟩
      refine g_go hf hc' 5 ?_
      refine ⟨fun h2 => ?_, fun h2 => ?_⟩
      · have h4 : i = 4 := by
          rw [nI_leI (by decide) (by omega)] at h2
          omega
        subst h4
        refine ⟨_, rc, R, P, S, hs, _, bf, st, ln, at0, nu, th, r, by rw [← hrec], rfl, by omega, rfl, ?_⟩
        refine ⟨fun h5 => ?_, fun h5 => ?_⟩
        · have h6 : ¬ dR L R rc = 0 := h5
          refine ⟨8, 0, none, 5, rfl, by omega, h6, fun _ => rfl, fun o ho => (by cases ho), ?_, by rw [← hrec, ← hdon]; rfl, rfl, rfl, rfl⟩
          unfold mvWR
          rw [hrec, if_neg h6, hdon]
        · have h6 : dR L R rc = 0 := h5
          have e5 : mvWR L R = none := by
            unfold mvWR
            rw [hrec, if_pos h6]
          unfold mvR at hK
          rw [e5] at hK
          exact hK
      · have h4 : i < 4 := by
          rw [nI_leI (by decide) (by omega)] at h2
          omega
        obtain ⟨d, rfl⟩ : ∃ d, i = d + 1 := ⟨i - 1, by omega⟩
        have ha := amax_le (dR L R) d
        simp only [Nat.add_sub_cancel]
        refine ⟨_, d + 1, R, P, S, hs, _, bf, st, ln, at0, nu, th, r, rfl, rfl, by omega, rfl, ?_⟩
        refine ⟨_, amax (dR L R) d, R, P, S, hs, _, bf, st, ln, at0, nu, th, r, rfl, rfl, by omega, rfl, ?_⟩
        rw [e1, e1]
        refine ⟨fun h7 => ?_, fun h7 => ?_⟩
        · have h8 : ¬ dR L R (amax (dR L R) d) < dR L R (d + 1) := by first | exact h7 | exact Int32.not_lt.mpr h7
          exact ⟨0, rfl, by omega, by simp only [amax, if_neg h8], rfl, rfl, rfl⟩
        · have h8 : dR L R (amax (dR L R) d) < dR L R (d + 1) := by first | exact h7 | exact Int32.not_le.mp h7
          exact ⟨0, rfl, by omega, by simp only [amax, if_pos h8], rfl, rfl, rfl⟩
    · refine wr_ok hf hc 5 0 _ _ _ _ _ ?_
      refine ⟨L, R, P, S, hs, tg, bf, st, ln, at0, nu, th, r, rfl, hL, rfl, ?_⟩
      exact ⟨3, 1, rfl, by omega, by omega, rfl, rfl, rfl, rfl⟩
end MM10

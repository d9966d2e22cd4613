/-! PartitionedCacheModel: streams, runs, the rate, the constructor. -/
section MM17
def sX7_stream : gS := fun av es K => ∃ c th x y z u k ans c', av = [.ref 0, .int x, .int y, .int z, .int u] ∧ inv c ∧ mW c th es ∧ r_stream c x y z u k ans c' ∧ ∀ es', mW c' (nI k) es' → K (some (.int (an k ans))) es'
def rmX7_stream : Room := { frames := 5, cells := 0, slots := 0, locals := 123 }
def pX7_stream (K : gK) : List (Nat × gO) := [(0, oFR 7 (oALoad 0)), (1, oConst (nI 0)), (2, oPutI 7 10), (5, oFR 7 (oILoad 1)), (6, oConst (nI 0)), (7, oConst (nI 3)), (8, oSR 7 0 0 3 [] sX7_in), (11, oFR 7 (oIf_ne 20)), (14, oALoad 0), (15, oConst (nI 1)), (16, oCallV0 0 0 7 1 sX7_fails), (19, oFR 7 (oRet K 0 0)), (20, oILoad 2), (21, oConst (nI 0)), (22, oConst (nI 255)), (25, oSR 7 0 0 3 [] sX7_in), (28, oFR 7 (oIf_eq 52)), (31, oILoad 3), (32, oConst (nI 1)), (33, oConst (nI 64)), (35, oSR 7 0 0 3 [] sX7_in), (38, oFR 7 (oIf_eq 52)), (41, oILoad 4), (43, oConst (nI 1)), (44, oConst (nI 40)), (46, oSR 7 0 0 3 [] sX7_in), (49, oFR 7 (oIf_ne 58)), (52, oALoad 0), (53, oConst (nI 2)), (54, oCallV0 0 0 7 1 sX7_fails), (57, oFR 7 (oRet K 0 0)), (58, oALoad 0), (59, oCallV0 0 0 7 0 sX7_record), (62, oConst (nI 0)), (63, oFR 7 (oIStore 7 5)), (65, oConst (nI 0)), (66, oFR 7 (oIStore 7 6)), (68, oFR 7 (oILoad 6)), (70, oILoad 4), (72, oICmp_ge 110), (75, oILoad 5), (77, oALoad 0), (78, oILoad 1), (79, oILoad 2), (80, oILoad 6), (82, oILoad 3), (83, oMul), (84, oAdd), (85, oConst (nI 256)), (88, oRem), (89, oCallV0 0 0 7 2 sX7_visits), (92, oConst (nI 1)), (93, oFR 7 (oICmp_ne 100)), (96, oConst (nI 1)), (97, oGoto 101), (100, oConst (nI 0)), (101, oAdd), (102, oIStore 7 5), (104, oFR 7 (oIInc 7 6 (nI 1))), (107, oGoto 68), (110, oFR 7 (oILoad 5)), (112, oRet K 0 0)]
set_option maxRecDepth 100000 in
theorem kX7_stream {X : gX} {l : Launch} (hM : gM X l cX7_stream RX7 wsX7_stream rmX7_stream) {K : gK} (hE : gR X K 0 0 (some .int)) (hnL : X.2.2.2.2.2.2.2.2.2.2.2.2.2.2.2.2 = 7) : okL X (pX7_stream K) := by
  obtain ⟨p, l1, e, R, s, m, args, below, meth, c, D, cA, A, ag, ad0, Q, nL⟩ := X
  cases hnL
  refine ⟨ok_FR (ok_aload_n hM 0 dX7_stream_0 rfl),
    ok_iconst hM dX7_stream_1 rfl,
    ok_putI (C := RX7) (T := TX7) (Nf := 11) hM (fun _ h => List.mem_cons_of_mem _ (List.mem_append_right _ h)) tyX7 tyX7_ok nmX7 rfl 10 (by decide) (List.mem_of_getElem? (i := 1) rfl) rfl rfl (by decide +kernel) dX7_stream_2,
    ok_FR (ok_iload_n hM 1 dX7_stream_5 rfl),
    ok_iconst hM dX7_stream_6 rfl,
    ok_iconst hM dX7_stream_7 rfl,
    ok_SR (ok_callS hM [] (ctX7_in l) rfl gX7_stream_X7_in rfl rfl rfl (by decide +kernel) (by decide) dX7_stream_8),
    ok_FR (ok_if_ne hM 20 dX7_stream_11 (by decide)),
    ok_aload_n hM 0 dX7_stream_14 rfl,
    ok_iconst hM dX7_stream_15 rfl,
    ok_callV0 hM (ctX7_fails l) rfl gX7_stream_X7_fails rfl rfl rfl (by decide +kernel) (by decide) dX7_stream_16,
    ok_FR (ok_ret hM hE dX7_stream_19),
    ok_iload_n hM 2 dX7_stream_20 rfl,
    ok_iconst hM dX7_stream_21 rfl,
    ok_sipush hM dX7_stream_22 rfl,
    ok_SR (ok_callS hM [] (ctX7_in l) rfl gX7_stream_X7_in rfl rfl rfl (by decide +kernel) (by decide) dX7_stream_25),
    ok_FR (ok_if_eq hM 52 dX7_stream_28 (by decide)),
    ok_iload_n hM 3 dX7_stream_31 rfl,
    ok_iconst hM dX7_stream_32 rfl,
    ok_bipush hM dX7_stream_33 rfl,
    ok_SR (ok_callS hM [] (ctX7_in l) rfl gX7_stream_X7_in rfl rfl rfl (by decide +kernel) (by decide) dX7_stream_35),
    ok_FR (ok_if_eq hM 52 dX7_stream_38 (by decide)),
    ok_iload hM 4 dX7_stream_41,
    ok_iconst hM dX7_stream_43 rfl,
    ok_bipush hM dX7_stream_44 rfl,
    ok_SR (ok_callS hM [] (ctX7_in l) rfl gX7_stream_X7_in rfl rfl rfl (by decide +kernel) (by decide) dX7_stream_46),
    ok_FR (ok_if_ne hM 58 dX7_stream_49 (by decide)),
    ok_aload_n hM 0 dX7_stream_52 rfl,
    ok_iconst hM dX7_stream_53 rfl,
    ok_callV0 hM (ctX7_fails l) rfl gX7_stream_X7_fails rfl rfl rfl (by decide +kernel) (by decide) dX7_stream_54,
    ok_FR (ok_ret hM hE dX7_stream_57),
    ok_aload_n hM 0 dX7_stream_58 rfl,
    ok_callV0 hM (ctX7_record l) rfl gX7_stream_X7_record rfl rfl rfl (by decide +kernel) (by decide) dX7_stream_59,
    ok_iconst hM dX7_stream_62 rfl,
    ok_FR (ok_istore hM 5 dX7_stream_63),
    ok_iconst hM dX7_stream_65 rfl,
    ok_FR (ok_istore hM 6 dX7_stream_66),
    ok_FR (ok_iload hM 6 dX7_stream_68),
    ok_iload hM 4 dX7_stream_70,
    ok_icmp_ge hM 110 dX7_stream_72 (by decide),
    ok_iload hM 5 dX7_stream_75,
    ok_aload_n hM 0 dX7_stream_77 rfl,
    ok_iload_n hM 1 dX7_stream_78 rfl,
    ok_iload_n hM 2 dX7_stream_79 rfl,
    ok_iload hM 6 dX7_stream_80,
    ok_iload_n hM 3 dX7_stream_82 rfl,
    ok_imul hM dX7_stream_83,
    ok_iadd hM dX7_stream_84,
    ok_sipush hM dX7_stream_85 rfl,
    ok_irem hM dX7_stream_88,
    ok_callV0 hM (ctX7_visits l) rfl gX7_stream_X7_visits rfl rfl rfl (by decide +kernel) (by decide) dX7_stream_89,
    ok_iconst hM dX7_stream_92 rfl,
    ok_FR (ok_icmp_ne hM 100 dX7_stream_93 (by decide)),
    ok_iconst hM dX7_stream_96 rfl,
    ok_goto hM 101 dX7_stream_97 (by decide),
    ok_iconst hM dX7_stream_100 rfl,
    ok_iadd hM dX7_stream_101,
    ok_istore hM 5 dX7_stream_102,
    ok_FR (ok_iinc hM 6 dX7_stream_104 rfl),
    ok_goto hM 68 dX7_stream_107 (by decide),
    ok_FR (ok_iload hM 5 dX7_stream_110),
    ok_ret hM hE dX7_stream_112,
    trivial⟩
set_option maxRecDepth 100000 in
theorem ctX7_stream (l : Launch) : Ct l yX7_stream wsX7_stream rmX7_stream 0 0 false sX7_stream := by
  refine ct_of (own := RX7) (cc := cX7_stream) (maxL := 7) (ret := (some .int)) (by decide) rfl rfl (by rintro _ _ _ ⟨c, th, x, y, z, u, k, ans, c', rfl, hinv, hw, hr, hK⟩; exact Nat.le_of_ble_eq_true rfl) ?_
  intro X av es K hM hE hag hin hnL hsp
  obtain ⟨c, th, x, y, z, u, k, ans, c', rfl, hinv, hw, hr, hK⟩ := hsp
  have hf := kX7_stream hM hE hnL
  obtain ⟨v, n, ch, H, o, s, sf, z0, z1⟩ := c
  obtain ⟨R, P, S, tg, at0, nu, rfl, hrl, hhr, hsl⟩ := hw
  obtain ⟨ho, hs, hn, hch, hk, hkH, hk0, hk1⟩ := hinv
  have hL := lfv_ok hk
  refine g_with (X := X) 68 [0, 1, 2, 3, 4, 5, 6] (fun μ vs es k9 m9 => ∃ (t a b m i : Nat) (R' tg' : Nat → Int32), t < 4 ∧ a ≤ 255 ∧ 1 ≤ b ∧ b ≤ 64 ∧ 1 ≤ m ∧ m ≤ 40 ∧ x = nI t ∧ y = nI a ∧ z = nI b ∧ u = nI m ∧ μ = 40 - i ∧ i ≤ m ∧ rl (stS (lfv v) v t a b i) R' ∧ vs = [.ref 0, .int (nI t), .int (nI a), .int (nI b), .int (nI m), .int (nI (stH (lfv v) v t a b i)), .int (nI i)] ∧ es = mdW R' (rcP R P s 206) S sf tg' (nF ch) (nI (psS s)) (nI n) at0 nu (nI 0) [] ∧ k9 = 0 ∧ m9 = 0) cut_nil (fun μ hc vs es k9 m9 hI => ?_) (fun hc => ?_)
  · obtain ⟨t, a, b, m, i, R', tg', ht, ha, hb0, hb, hm0, hm, rfl, rfl, rfl, rfl, rfl, hi, hR', rfl, rfl, rfl, rfl⟩ := hI
    refine g_go hf hc 9 ?_
    refine ⟨fun h => ?_, fun h => ?_⟩
    · have h4 : i = m := by
        rw [nI_leI (by omega) (by omega)] at h
        omega
      subst h4
      obtain ⟨rfl, ea, rfl⟩ := hr.1 t a b i ht ha hb0 hb hm0 hm rfl rfl rfl rfl
      have hK := hK _ ⟨R', _, S, tg', at0, nu, rfl, hR', hr_push ho hs hhr hrl, hsl⟩
      rw [ea] at hK
      exact hK
    · have h4 : i < m := by
        rw [nI_leI (by omega) (by omega)] at h
        omega
      have hic : i * b ≤ 40 * 64 := Nat.mul_le_mul (by omega) hb
      have hL2 : ∀ t', t' < 4 → vLe (stS (lfv v) v t a b i) t' = nI (lfv v t') ∧ lfv v t' ≤ 2 := fun t' ht' => by
        rw [stS_keep]
        exact hL t' ht'
      have hr2 : acR (stS (lfv v) v t a b i) t ((a + i * b) % 256) ≤ 2 := rsl_le _ _ _ _
      refine ⟨by decide, ?_⟩
      refine ⟨_, _, t, (a + i * b) % 256, stS (lfv v) v t a b i, lfv v, R', _, S, sf, tg', _, _, _, at0, nu, _, [], rfl, rfl, by rw [pk_mul, nI_add]; exact pk_rem (by omega) (by decide) (by decide), ht, Nat.mod_lt _ (by decide), vK_st hk _ ht a b i, hL2, hR', rfl, fun R2 tg2 hR2 => ?_⟩
      refine ⟨fun h5 => ?_, fun h5 => ?_⟩
      · have h6 : ¬ acR (stS (lfv v) v t a b i) t ((a + i * b) % 256) = 1 := fun q => h5 (by rw [q])
        exact ⟨40 - (i + 1), by omega, t, a, b, m, i + 1, R2, tg2, ht, ha, hb0, hb, hm0, hm, rfl, rfl, rfl, rfl, rfl, by omega, hR2, by rw [nI_add, nI_add]; simp only [stH, if_neg h6]; rfl, rfl, rfl, rfl⟩
      · have h6 : acR (stS (lfv v) v t a b i) t ((a + i * b) % 256) = 1 := nI_inj h5 (by omega) (by decide)
        exact ⟨40 - (i + 1), by omega, t, a, b, m, i + 1, R2, tg2, ht, ha, hb0, hb, hm0, hm, rfl, rfl, rfl, rfl, rfl, by omega, hR2, by rw [nI_add, nI_add]; simp only [stH, if_pos h6], rfl, rfl, rfl⟩
  · refine g_with (X := X) 52 [0] (fun μ vs es k9 m9 => μ = 0 ∧ k = 2 ∧ c' = (v, n, ch, H, o, s, sf, z0, z1) ∧ vs = [.ref 0] ∧ es = mdW R P S sf tg (nF ch) (nI s) (nI n) at0 nu (nI 0) [] ∧ k9 = 0 ∧ m9 = 0) hc (fun μ hc2 vs es k9 m9 hI => ?_) (fun hc2 => ?_)
    · obtain ⟨rfl, rfl, rfl, rfl, rfl, rfl, rfl⟩ := hI
      refine g_go hf hc2 9 ?_
      refine ⟨_, R, P, S, sf, tg, _, _, _, at0, nu, _, [], rfl, rfl, ?_⟩
      exact hK _ ⟨R, P, S, tg, at0, nu, rfl, hrl, hhr, hsl⟩
    · refine wr_ok hf hc2 9 0 _ _ _ _ _ ?_
      refine ⟨_, _, _, rfl, rfl, ?_⟩
      by_cases q0 : inI x 4
      · obtain ⟨t, ht, rfl⟩ := q0
        rw [inIB_t ⟨t, ht, rfl⟩ rfl (by decide)]
        first | refine ⟨fun h => absurd h (by decide), fun _ => ?_⟩ | refine ⟨fun _ => ?_, fun h => absurd h (by decide)⟩
        refine ⟨_, _, _, rfl, rfl, ?_⟩
        by_cases q1 : inA y 0 255
        · rw [inB_t q1 (by decide)]
          first | refine ⟨fun h => absurd h (by decide), fun _ => ?_⟩ | refine ⟨fun _ => ?_, fun h => absurd h (by decide)⟩
          refine ⟨_, _, _, rfl, rfl, ?_⟩
          by_cases q2 : inA z 1 64
          · rw [inB_t q2 (by decide)]
            first | refine ⟨fun h => absurd h (by decide), fun _ => ?_⟩ | refine ⟨fun _ => ?_, fun h => absurd h (by decide)⟩
            refine ⟨_, _, _, rfl, rfl, ?_⟩
            by_cases q3 : inA u 1 40
            · rw [inB_t q3 (by decide)]
              first | refine ⟨fun h => absurd h (by decide), fun _ => ?_⟩ | refine ⟨fun _ => ?_, fun h => absurd h (by decide)⟩
              obtain ⟨a, ha0, ha, rfl⟩ := q1
              obtain ⟨b, hb0, hb, rfl⟩ := q2
              obtain ⟨m, hm0, hm, rfl⟩ := q3
              refine ⟨s, R, P, S, sf, tg, _, _, at0, nu, _, [], rfl, hs, rfl, ?_⟩
              rw [qs_ps hs]
              exact ⟨40, t, a, b, m, 0, R, tg, ht, ha, hb0, hb, hm0, hm, rfl, rfl, rfl, rfl, rfl, by omega, hrl, rfl, rfl, rfl, rfl⟩
            · rw [inB_f q3 (by decide) (by decide)]
              first | refine ⟨fun h => absurd h (by decide), fun _ => ?_⟩ | refine ⟨fun _ => ?_, fun h => absurd h (by decide)⟩
              obtain ⟨e1, e2⟩ := hr.2.2.2.2 ⟨t, ht, rfl⟩ q1 q2 q3
              exact ⟨0, rfl, e1, e2, rfl, rfl, rfl, rfl⟩
          · rw [inB_f q2 (by decide) (by decide)]
            first | refine ⟨fun h => absurd h (by decide), fun _ => ?_⟩ | refine ⟨fun _ => ?_, fun h => absurd h (by decide)⟩
            obtain ⟨e1, e2⟩ := hr.2.2.2.1 ⟨t, ht, rfl⟩ q1 q2
            exact ⟨0, rfl, e1, e2, rfl, rfl, rfl, rfl⟩
        · rw [inB_f q1 (by decide) (by decide)]
          first | refine ⟨fun h => absurd h (by decide), fun _ => ?_⟩ | refine ⟨fun _ => ?_, fun h => absurd h (by decide)⟩
          obtain ⟨e1, e2⟩ := hr.2.2.1 ⟨t, ht, rfl⟩ q1
          exact ⟨0, rfl, e1, e2, rfl, rfl, rfl, rfl⟩
      · rw [inIB_f q0 rfl (by decide)]
        first | refine ⟨fun h => absurd h (by decide), fun _ => ?_⟩ | refine ⟨fun _ => ?_, fun h => absurd h (by decide)⟩
        obtain ⟨rfl, rfl⟩ := hr.2.1 q0
        refine ⟨_, R, P, S, sf, tg, _, _, _, at0, nu, _, [], rfl, rfl, ?_⟩
        exact hK _ ⟨R, P, S, tg, at0, nu, rfl, hrl, hhr, hsl⟩
-- runs
theorem q_semi {ch : Nat → Nat} {n q st m : Nat} (h1 : st = 4 ∨ st = 6) (h2 : feR ch n (n - q) q st m = none) (h3 : q < n → st = 4 → ¬ stgA 4 m (ch q) = 4) (hq : q < n) : ch q = 59 ∧ feR ch n (n - (q + 1)) (q + 1) 1 0 = none := by
  by_cases hc : ch q = 59
  · refine ⟨hc, ?_⟩
    rw [← h2]
    refine (fe_go hq ?_ (by decide) (by decide)).symm
    rw [hc]
    rcases h1 with rfl | rfl <;> rfl
  · exfalso
    have e0 : stgA st m (ch q) = 0 := by
      rcases h1 with rfl | rfl
      · have := h3 hq rfl
        have e : stgA 4 m (ch q) = if (48 ≤ ch q ∧ ch q ≤ 57) ∧ ¬ m = 0 ∧ m * 10 + (ch q - 48) < 256 then 4 else 0 := if_neg hc
        rw [e] at this ⊢
        by_cases c : (48 ≤ ch q ∧ ch q ≤ 57) ∧ ¬ m = 0 ∧ m * 10 + (ch q - 48) < 256
        · rw [if_pos c] at this
          exact absurd rfl this
        · rw [if_neg c]
      · show (if ch q = 59 then 1 else 0) = 0
        rw [if_neg hc]
    rw [fe_step hq, if_pos e0] at h2
    cases h2
theorem cm_kd {ch : Nat → Nat} {n p k q : Nat} {nu : Int32} (h : cmOK ch n p k q nu) (hf : feR ch n (n - p) p 1 0 = none) : kdC ch n p k nu ∧ (q < n → ch q = 59 ∧ feR ch n (n - (q + 1)) (q + 1) 1 0 = none) := by
  obtain ⟨-, -, -, st, m, h1, h2, h3, h4⟩ := h
  have h5 : feR ch n (n - q) q st m = none := h2.symm.trans hf
  refine ⟨?_, fun hq => q_semi h1 h5 h3 hq⟩
  rcases h4 with h4 | h4 | h4 | ⟨k1, k2, k3, k4, k5, k6, k7⟩
  · exact Or.inl h4
  · exact Or.inr (Or.inl h4)
  · exact Or.inr (Or.inr (Or.inl h4))
  · have e : numN ch (n - (p + 2)) (p + 2) 0 = m := k7.trans (nm_end (fun hq => by
      have := (q_semi h1 h5 h3 hq).1
      omega))
    exact Or.inr (Or.inr (Or.inr ⟨k1, k2, k3, by rw [e]; exact k5, by rw [e]; exact k6⟩))
theorem rt_skip {L : Nat → Nat} {n : Nat} {ch : Nat → Nat} {v : gV} {p : Nat} : ∀ e, p + 1 ≤ e → (∀ j, p < j → j < e → ¬ ch (j - 1) = 59) → rtS L n ch v e = rtS L n ch v (p + 1) ∧ rtH L n ch v e = rtH L n ch v (p + 1)
  | 0, h, _ => absurd h (by omega)
  | e + 1, h, hn => by
    by_cases c : e = p
    · subst c
      exact ⟨rfl, rfl⟩
    · obtain ⟨i1, i2⟩ := rt_skip (L := L) (n := n) (ch := ch) (v := v) e (by omega) (fun j h1 h2 => hn j h1 (by omega))
      have hno : ¬ (e = 0 ∨ ch (e - 1) = 59) := fun z => z.elim (fun z => by omega) (fun z => hn e (by omega) (by omega) z)
      refine ⟨?_, ?_⟩
      · rw [← i1]
        exact if_neg hno
      · rw [← i2]
        exact if_neg (fun z => hno z.1)
theorem rtH_s {L : Nat → Nat} {n : Nat} {ch : Nat → Nat} {v : gV} {p : Nat} (h : p = 0 ∨ ch (p - 1) = 59) : rtH L n ch v (p + 1) = rtH L n ch v p + rcN n ch p (rtS L n ch v p) := by
  unfold rcN
  by_cases c : rcR n ch p (rtS L n ch v p) = nI 1
  · rw [if_pos c]
    exact if_pos ⟨h, c⟩
  · rw [if_neg c]
    exact if_neg (fun z => c z.2)
def sX7_runText : gS := fun av es K => ∃ c th k ans c', av = [.ref 0] ∧ inv c ∧ mW c th es ∧ r_runText c k ans c' ∧ ∀ es', mW c' (nI k) es' → K (some (.int (an k ans))) es'
def rmX7_runText : Room := { frames := 6, cells := 0, slots := 0, locals := 145 }
def pX7_runText (K : gK) : List (Nat × gO) := [(0, oFR 7 (oALoad 0)), (1, oConst (nI 0)), (2, oPutI 7 10), (5, oFR 7 (oALoad 0)), (6, oCallV0 0 0 7 0 sX7_isValid), (9, oFR 7 (oIf_ne 18)), (12, oALoad 0), (13, oConst (nI 1)), (14, oCallV0 0 0 7 1 sX7_fails), (17, oFR 7 (oRet K 0 0)), (18, oALoad 0), (19, oCallV0 0 0 7 0 sX7_record), (22, oFR 7 (oALoad 0)), (23, oConst (nI 0)), (24, oPutI 7 8), (27, oConst (nI 0)), (28, oFR 7 (oIStore 2 1)), (29, oFR 7 (oALoad 0)), (30, oGet 7 8), (33, oALoad 0), (34, oGet 7 7), (37, oICmp_ge 64), (40, oILoad 1), (41, oALoad 0), (42, oALoad 0), (43, oCallV0 0 0 7 0 sX7_command), (46, oFR 7 (oCallV0 0 0 7 1 sX7_does)), (49, oAdd), (50, oFR 7 (oIStore 2 1)), (51, oFR 7 (oALoad 0)), (52, oDup), (53, oGet 7 8), (56, oConst (nI 1)), (57, oAdd), (58, oPutI 7 8), (61, oGoto 29), (64, oFR 7 (oILoad 1)), (65, oRet K 0 0)]
set_option maxRecDepth 100000 in
theorem kX7_runText {X : gX} {l : Launch} (hM : gM X l cX7_runText RX7 wsX7_runText rmX7_runText) {K : gK} (hE : gR X K 0 0 (some .int)) (hnL : X.2.2.2.2.2.2.2.2.2.2.2.2.2.2.2.2 = 2) : okL X (pX7_runText K) := by
  obtain ⟨p, l1, e, R, s, m, args, below, meth, c, D, cA, A, ag, ad0, Q, nL⟩ := X
  cases hnL
  refine ⟨ok_FR (ok_aload_n hM 0 dX7_runText_0 rfl),
    ok_iconst hM dX7_runText_1 rfl,
    ok_putI (C := RX7) (T := TX7) (Nf := 11) hM (fun _ h => List.mem_cons_of_mem _ (List.mem_append_right _ h)) tyX7 tyX7_ok nmX7 rfl 10 (by decide) (List.mem_of_getElem? (i := 1) rfl) rfl rfl (by decide +kernel) dX7_runText_2,
    ok_FR (ok_aload_n hM 0 dX7_runText_5 rfl),
    ok_callV0 hM (ctX7_isValid l) rfl gX7_runText_X7_isValid rfl rfl rfl (by decide +kernel) (by decide) dX7_runText_6,
    ok_FR (ok_if_ne hM 18 dX7_runText_9 (by decide)),
    ok_aload_n hM 0 dX7_runText_12 rfl,
    ok_iconst hM dX7_runText_13 rfl,
    ok_callV0 hM (ctX7_fails l) rfl gX7_runText_X7_fails rfl rfl rfl (by decide +kernel) (by decide) dX7_runText_14,
    ok_FR (ok_ret hM hE dX7_runText_17),
    ok_aload_n hM 0 dX7_runText_18 rfl,
    ok_callV0 hM (ctX7_record l) rfl gX7_runText_X7_record rfl rfl rfl (by decide +kernel) (by decide) dX7_runText_19,
    ok_FR (ok_aload_n hM 0 dX7_runText_22 rfl),
    ok_iconst hM dX7_runText_23 rfl,
    ok_putI (C := RX7) (T := TX7) (Nf := 11) hM (fun _ h => List.mem_cons_of_mem _ (List.mem_append_right _ h)) tyX7 tyX7_ok nmX7 rfl 8 (by decide) (List.mem_of_getElem? (i := 2) rfl) rfl rfl (by decide +kernel) dX7_runText_24,
    ok_iconst hM dX7_runText_27 rfl,
    ok_FR (ok_istore_n hM 1 dX7_runText_28 rfl),
    ok_FR (ok_aload_n hM 0 dX7_runText_29 rfl),
    ok_get (C := RX7) (T := TX7) (Nf := 11) hM (fun _ h => List.mem_cons_of_mem _ (List.mem_append_right _ h)) rfl 8 (by decide) (List.mem_of_getElem? (i := 2) rfl) rfl dX7_runText_30,
    ok_aload_n hM 0 dX7_runText_33 rfl,
    ok_get (C := RX7) (T := TX7) (Nf := 11) hM (fun _ h => List.mem_cons_of_mem _ (List.mem_append_right _ h)) rfl 7 (by decide) (List.mem_of_getElem? (i := 3) rfl) rfl dX7_runText_34,
    ok_icmp_ge hM 64 dX7_runText_37 (by decide),
    ok_iload_n hM 1 dX7_runText_40 rfl,
    ok_aload_n hM 0 dX7_runText_41 rfl,
    ok_aload_n hM 0 dX7_runText_42 rfl,
    ok_callV0 hM (ctX7_command l) rfl gX7_runText_X7_command rfl rfl rfl (by decide +kernel) (by decide) dX7_runText_43,
    ok_FR (ok_callV0 hM (ctX7_does l) rfl gX7_runText_X7_does rfl rfl rfl (by decide +kernel) (by decide) dX7_runText_46),
    ok_iadd hM dX7_runText_49,
    ok_FR (ok_istore_n hM 1 dX7_runText_50 rfl),
    ok_FR (ok_aload_n hM 0 dX7_runText_51 rfl),
    ok_dup hM dX7_runText_52,
    ok_get (C := RX7) (T := TX7) (Nf := 11) hM (fun _ h => List.mem_cons_of_mem _ (List.mem_append_right _ h)) rfl 8 (by decide) (List.mem_of_getElem? (i := 2) rfl) rfl dX7_runText_53,
    ok_iconst hM dX7_runText_56 rfl,
    ok_iadd hM dX7_runText_57,
    ok_putI (C := RX7) (T := TX7) (Nf := 11) hM (fun _ h => List.mem_cons_of_mem _ (List.mem_append_right _ h)) tyX7 tyX7_ok nmX7 rfl 8 (by decide) (List.mem_of_getElem? (i := 2) rfl) rfl rfl (by decide +kernel) dX7_runText_58,
    ok_goto hM 29 dX7_runText_61 (by decide),
    ok_FR (ok_iload_n hM 1 dX7_runText_64 rfl),
    ok_ret hM hE dX7_runText_65,
    trivial⟩
set_option maxRecDepth 100000 in
theorem ctX7_runText (l : Launch) : Ct l yX7_runText wsX7_runText rmX7_runText 0 0 false sX7_runText := by
  refine ct_of (own := RX7) (cc := cX7_runText) (maxL := 2) (ret := (some .int)) (by decide) rfl rfl (by rintro _ _ _ ⟨c, th, k, ans, c', rfl, hinv, hw, hr, hK⟩; exact Nat.le_of_ble_eq_true rfl) ?_
  intro X av es K hM hE hag hin hnL hsp
  obtain ⟨c, th, k, ans, c', rfl, hinv, hw, hr, hK⟩ := hsp
  have hf := kX7_runText hM hE hnL
  obtain ⟨v, n, ch, H, o, s, sf, z0, z1⟩ := c
  obtain ⟨R, P, S, tg, at0, nu, rfl, hrl, hhr, hsl⟩ := hw
  obtain ⟨ho, hs, hn, hch, hk, hkH, hk0, hk1⟩ := hinv
  have hL := lfv_ok hk
  refine g_with (X := X) 29 [0, 1] (fun μ vs es k9 m9 => ∃ (p e : Nat) (R' tg' : Nat → Int32) (nu' : Int32), fErr ch n = none ∧ μ = n + 1 - p ∧ p ≤ n + 1 ∧ e ≤ n ∧ (p < n → p = e) ∧ (¬ p < n → e = n) ∧ (p < n → (p = 0 ∨ ch (p - 1) = 59) ∧ feR ch n (n - p) p 1 0 = none) ∧ rl (rtS (lfv v) n ch v e) R' ∧ vs = [.ref 0, .int (nI (rtH (lfv v) n ch v e))] ∧ es = mdW R' (rcP R P s 206) S sf tg' (nF ch) (nI (psS s)) (nI n) (nI p) nu' (nI 0) [] ∧ k9 = 0 ∧ m9 = 0) cut_nil (fun μ hc vs es k9 m9 hI => ?_) (fun hc => ?_)
  · obtain ⟨p, e, R', tg', nu', hv, rfl, hp, he, hpe, hpn, hb, hR', rfl, rfl, rfl, rfl⟩ := hI
    refine g_go hf hc 9 ?_
    refine ⟨fun h => ?_, fun h => ?_⟩
    · have h4 : ¬ p < n := by
        rw [nI_leI (by omega) (by omega)] at h
        omega
      obtain rfl := hpn h4
      obtain ⟨rfl, ea, rfl⟩ := hr.1 hv
      have hK := hK _ ⟨R', _, S, tg', nI p, nu', rfl, hR', hr_push ho hs hhr hrl, hsl⟩
      rw [ea] at hK
      exact hK
    · have h4 : p < n := by
        rw [nI_leI (by omega) (by omega)] at h
        omega
      obtain rfl := hpe h4
      obtain ⟨hb1, hb2⟩ := hb h4
      have hL2 : ∀ t', t' < 4 → vLe (rtS (lfv v) n ch v p) t' = nI (lfv v t') ∧ lfv v t' ≤ 2 := fun t' ht' => by
        rw [rtS_keep]
        exact hL t' ht'
      refine ⟨n, p, ch, R', _, S, sf, tg', _, nu', _, [], rfl, hn, by omega, fun j _ => hch j, rfl, fun q hq hf2 => (by rw [hb2] at hf2; cases hf2), fun k2 q nu2 hk2 hcm => ?_⟩
      obtain ⟨hkd, hsemi⟩ := cm_kd hcm hb2
      obtain ⟨hpq, hqn, hno, -⟩ := hcm
      refine ⟨_, k2, p, n, ch, nu2, rtS (lfv v) n ch v p, lfv v, R', _, S, sf, tg', _, _, _, _, _, [], rfl, rfl, hk2, hkd, vK_rt hk _ (fErr_rc hv) p (by omega), hL2, hR', rfl, fun R2 tg2 hR2 => ?_⟩
      have e1 : rtS (lfv v) n ch v (p + 1) = rcV (lfv v) n ch p (rtS (lfv v) n ch v p) := if_pos hb1
      rw [← e1] at hR2
      by_cases hq : q < n
      · obtain ⟨hc59, hfe⟩ := hsemi hq
        obtain ⟨i1, i2⟩ := rt_skip (L := lfv v) (n := n) (ch := ch) (v := v) (p := p) (q + 1) (by omega) (fun j h1 h2 => hno (j - 1) (by omega) (by omega))
        rw [← i1] at hR2
        exact ⟨n + 1 - (q + 1), by omega, q + 1, q + 1, R2, tg2, nu2, hv, rfl, by omega, by omega, fun _ => rfl, fun z => by omega, fun _ => ⟨Or.inr hc59, hfe⟩, hR2, by rw [i2, rtH_s hb1, ← nI_add], by rw [← nI_add] <;> rfl, rfl, rfl⟩
      · obtain rfl : q = n := by omega
        obtain ⟨i1, i2⟩ := rt_skip (L := lfv v) (n := q) (ch := ch) (v := v) (p := p) q (by omega) (fun j h1 h2 => hno (j - 1) (by omega) (by omega))
        rw [← i1] at hR2
        exact ⟨q + 1 - (q + 1), by omega, q + 1, q, R2, tg2, nu2, hv, rfl, by omega, by omega, fun z => by omega, fun _ => rfl, fun z => by omega, hR2, by rw [i2, rtH_s hb1, ← nI_add], by rw [← nI_add] <;> rfl, rfl, rfl⟩
  · refine wr_ok hf hc 9 0 _ _ _ _ _ ?_
    refine ⟨n, ch, R, P, S, sf, tg, _, at0, nu, _, [], rfl, hn, fun j _ => hch j, rfl, fun hf0 q nu' => ?_, fun q nu' hq hf0 => ?_⟩
    · refine ⟨fun _ => ?_, fun h => absurd h (by decide)⟩
      refine ⟨s, R, P, S, sf, tg, _, _, q, nu', _, [], rfl, hs, rfl, ?_⟩
      rw [qs_ps hs]
      have hn0 : 0 < n := by
        rcases Nat.eq_zero_or_pos n with z | z
        · subst z
          have z : fErr ch 0 = some 0 := rfl
          rw [z] at hf0
          cases hf0
        · exact z
      exact ⟨n + 1 - 0, 0, 0, R, tg, nu', hf0, rfl, by omega, by omega, fun _ => rfl, fun z => absurd hn0 z, fun _ => ⟨Or.inl rfl, hf0⟩, hrl, rfl, rfl, rfl, rfl⟩
    · refine ⟨fun h => absurd rfl h, fun _ => ?_⟩
      obtain ⟨rfl, rfl⟩ := hr.2 (by rw [hf0]; exact fun z => by cases z)
      refine ⟨_, R, P, S, sf, tg, _, _, _, nI q, nu', _, [], rfl, rfl, ?_⟩
      exact hK _ ⟨R, P, S, tg, nI q, nu', rfl, hrl, hhr, hsl⟩
-- the rate
def dn : Nat → UInt64 → UInt64
  | 0, a => a
  | _ + 1, _ => FP.i2d (nI 0)
theorem hrR_num (v : gV) (t : Nat) : vf_n64 (hrR v t) := by
  unfold hrR
  by_cases c : hrM v t = 0
  · rw [if_pos c]
    unfold vf_n64
    decide +kernel
  · rw [if_neg c]
    exact fp_quot _ _ c
def sX7_hitRate : gS := fun av es K => ∃ c th x k ans c', av = [.ref 0, .int x] ∧ inv c ∧ mW c th es ∧ r_hitRate c x k ans c' ∧ ∀ es', mW c' (nI k) es' → K (some (.double (dn k ans))) es'
def rmX7_hitRate : Room := { frames := 1, cells := 0, slots := 0, locals := 22 }
def pX7_hitRate (K : gK) : List (Nat × gO) := [(0, oFR 7 (oALoad 0)), (1, oConst (nI 0)), (2, oPutI 7 10), (5, oFR 7 (oILoad 1)), (6, oConst (nI 0)), (7, oConst (nI 3)), (8, oSR 7 0 0 3 [] sX7_in), (11, oFR 7 (oIf_ne 21)), (14, oALoad 0), (15, oConst (nI 1)), (16, oCallV0 0 0 7 1 sX7_fails), (19, oFR 7 (oI2D)), (20, oRetD K 0 0), (21, oALoad 0), (22, oGet 7 0), (25, oConst (nI 190)), (28, oConst (nI 4)), (29, oILoad 1), (30, oMul), (31, oAdd), (32, oIALd 0), (33, oALoad 0), (34, oGet 7 0), (37, oConst (nI 190)), (40, oConst (nI 4)), (41, oILoad 1), (42, oMul), (43, oAdd), (44, oConst (nI 1)), (45, oAdd), (46, oIALd 0), (47, oAdd), (48, oALoad 0), (49, oGet 7 0), (52, oConst (nI 190)), (55, oConst (nI 4)), (56, oILoad 1), (57, oMul), (58, oAdd), (59, oConst (nI 2)), (60, oAdd), (61, oIALd 0), (62, oAdd), (63, oIStore 3 2), (64, oFR 7 (oILoad 2)), (65, oIf_ne 72), (68, oDConst0), (69, oGoto 90), (72, oALoad 0), (73, oGet 7 0), (76, oConst (nI 190)), (79, oConst (nI 4)), (80, oILoad 1), (81, oMul), (82, oAdd), (83, oConst (nI 1)), (84, oAdd), (85, oIALd 0), (86, oI2D), (87, oILoad 2), (88, oI2D), (89, oDDiv), (90, oRetD K 0 0)]
set_option maxRecDepth 100000 in
theorem kX7_hitRate {X : gX} {l : Launch} (hM : gM X l cX7_hitRate RX7 wsX7_hitRate rmX7_hitRate) {K : gK} (hE : gR X K 0 0 (some .double)) (hnL : X.2.2.2.2.2.2.2.2.2.2.2.2.2.2.2.2 = 3) : okL X (pX7_hitRate K) := by
  obtain ⟨p, l1, e, R, s, m, args, below, meth, c, D, cA, A, ag, ad0, Q, nL⟩ := X
  cases hnL
  refine ⟨ok_FR (ok_aload_n hM 0 dX7_hitRate_0 rfl),
    ok_iconst hM dX7_hitRate_1 rfl,
    ok_putI (C := RX7) (T := TX7) (Nf := 11) hM (fun _ h => List.mem_cons_of_mem _ (List.mem_append_right _ h)) tyX7 tyX7_ok nmX7 rfl 10 (by decide) (List.mem_of_getElem? (i := 1) rfl) rfl rfl (by decide +kernel) dX7_hitRate_2,
    ok_FR (ok_iload_n hM 1 dX7_hitRate_5 rfl),
    ok_iconst hM dX7_hitRate_6 rfl,
    ok_iconst hM dX7_hitRate_7 rfl,
    ok_SR (ok_callS hM [] (ctX7_in l) rfl gX7_hitRate_X7_in rfl rfl rfl (by decide +kernel) (by decide) dX7_hitRate_8),
    ok_FR (ok_if_ne hM 21 dX7_hitRate_11 (by decide)),
    ok_aload_n hM 0 dX7_hitRate_14 rfl,
    ok_iconst hM dX7_hitRate_15 rfl,
    ok_callV0 hM (ctX7_fails l) rfl gX7_hitRate_X7_fails rfl rfl rfl (by decide +kernel) (by decide) dX7_hitRate_16,
    ok_FR (ok_i2d hM dX7_hitRate_19),
    ok_retD hM hE dX7_hitRate_20,
    ok_aload_n hM 0 dX7_hitRate_21 rfl,
    ok_get (C := RX7) (T := TX7) (Nf := 11) hM (fun _ h => List.mem_cons_of_mem _ (List.mem_append_right _ h)) rfl 0 (by decide) (List.mem_of_getElem? (i := 2) rfl) rfl dX7_hitRate_22,
    ok_sipush hM dX7_hitRate_25 rfl,
    ok_iconst hM dX7_hitRate_28 rfl,
    ok_iload_n hM 1 dX7_hitRate_29 rfl,
    ok_imul hM dX7_hitRate_30,
    ok_iadd hM dX7_hitRate_31,
    ok_iald hM dX7_hitRate_32,
    ok_aload_n hM 0 dX7_hitRate_33 rfl,
    ok_get (C := RX7) (T := TX7) (Nf := 11) hM (fun _ h => List.mem_cons_of_mem _ (List.mem_append_right _ h)) rfl 0 (by decide) (List.mem_of_getElem? (i := 2) rfl) rfl dX7_hitRate_34,
    ok_sipush hM dX7_hitRate_37 rfl,
    ok_iconst hM dX7_hitRate_40 rfl,
    ok_iload_n hM 1 dX7_hitRate_41 rfl,
    ok_imul hM dX7_hitRate_42,
    ok_iadd hM dX7_hitRate_43,
    ok_iconst hM dX7_hitRate_44 rfl,
    ok_iadd hM dX7_hitRate_45,
    ok_iald hM dX7_hitRate_46,
    ok_iadd hM dX7_hitRate_47,
    ok_aload_n hM 0 dX7_hitRate_48 rfl,
    ok_get (C := RX7) (T := TX7) (Nf := 11) hM (fun _ h => List.mem_cons_of_mem _ (List.mem_append_right _ h)) rfl 0 (by decide) (List.mem_of_getElem? (i := 2) rfl) rfl dX7_hitRate_49,
    ok_sipush hM dX7_hitRate_52 rfl,
    ok_iconst hM dX7_hitRate_55 rfl,
    ok_iload_n hM 1 dX7_hitRate_56 rfl,
    ok_imul hM dX7_hitRate_57,
    ok_iadd hM dX7_hitRate_58,
    ok_iconst hM dX7_hitRate_59 rfl,
    ok_iadd hM dX7_hitRate_60,
    ok_iald hM dX7_hitRate_61,
    ok_iadd hM dX7_hitRate_62,
    ok_istore_n hM 2 dX7_hitRate_63 rfl,
    ok_FR (ok_iload_n hM 2 dX7_hitRate_64 rfl),
    ok_if_ne hM 72 dX7_hitRate_65 (by decide),
    ok_dconst0 hM dX7_hitRate_68,
    ok_goto hM 90 dX7_hitRate_69 (by decide),
    ok_aload_n hM 0 dX7_hitRate_72 rfl,
    ok_get (C := RX7) (T := TX7) (Nf := 11) hM (fun _ h => List.mem_cons_of_mem _ (List.mem_append_right _ h)) rfl 0 (by decide) (List.mem_of_getElem? (i := 2) rfl) rfl dX7_hitRate_73,
    ok_sipush hM dX7_hitRate_76 rfl,
    ok_iconst hM dX7_hitRate_79 rfl,
    ok_iload_n hM 1 dX7_hitRate_80 rfl,
    ok_imul hM dX7_hitRate_81,
    ok_iadd hM dX7_hitRate_82,
    ok_iconst hM dX7_hitRate_83 rfl,
    ok_iadd hM dX7_hitRate_84,
    ok_iald hM dX7_hitRate_85,
    ok_i2d hM dX7_hitRate_86,
    ok_iload_n hM 2 dX7_hitRate_87 rfl,
    ok_i2d hM dX7_hitRate_88,
    ok_ddiv hM dX7_hitRate_89,
    ok_retD hM hE dX7_hitRate_90,
    trivial⟩
set_option maxRecDepth 100000 in
theorem ctX7_hitRate (l : Launch) : Ct l yX7_hitRate wsX7_hitRate rmX7_hitRate 0 0 false sX7_hitRate := by
  refine ct_of (own := RX7) (cc := cX7_hitRate) (maxL := 3) (ret := (some .double)) (by decide) rfl rfl (by rintro _ _ _ ⟨c, th, x, k, ans, c', rfl, hinv, hw, hr, hK⟩; exact Nat.le_of_ble_eq_true rfl) ?_
  intro X av es K hM hE hag hin hnL hsp
  obtain ⟨c, th, x, k, ans, c', rfl, hinv, hw, hr, hK⟩ := hsp
  have hf := kX7_hitRate hM hE hnL
  obtain ⟨v, n, ch, H, o, s, sf, z0, z1⟩ := c
  obtain ⟨R, P, S, tg, at0, nu, rfl, hrl, hhr, hsl⟩ := hw
  obtain ⟨ho, hs, hn, hch, hk, hkH, hk0, hk1⟩ := hinv
  refine wr_ok hf cut_nil 9 0 _ _ _ _ _ ?_
  refine ⟨_, _, _, rfl, rfl, ?_⟩
  by_cases q0 : inI x 4
  · obtain ⟨t, ht, rfl⟩ := q0
    rw [inIB_t ⟨t, ht, rfl⟩ rfl (by decide)]
    first | refine ⟨fun h => absurd h (by decide), fun _ => ?_⟩ | refine ⟨fun _ => ?_, fun h => absurd h (by decide)⟩
    obtain ⟨rfl, ea, rfl⟩ := hr.1 t ht rfl
    have hK := hK _ ⟨R, P, S, tg, at0, nu, rfl, hrl, hhr, hsl⟩
    rw [ea] at hK
    have hK : K (some (.double (hrR v t))) (mdW R P S sf tg (nF ch) (nI s) (nI n) at0 nu (nI 0) []) := hK
    unfold hrR at hK
    have e0 : R (190 + (t * 4 + 0)) = vCo v (t * 4 + 0) := hrl.2.2.2.2.2.2.2.2 (t * 4 + 0) (by omega)
    have e1 : R (190 + (t * 4 + 1)) = vCo v (t * 4 + 1) := hrl.2.2.2.2.2.2.2.2 (t * 4 + 1) (by omega)
    have e2 : R (190 + (t * 4 + 2)) = vCo v (t * 4 + 2) := hrl.2.2.2.2.2.2.2.2 (t * 4 + 2) (by omega)
    have eM : vCo v (t * 4 + 0) + vCo v (t * 4 + 1) + vCo v (t * 4 + 2) = hrM v t := by
      unfold hrM
      rw [Int32.add_comm (vCo v (t * 4 + 0))]
    refine ⟨190 + (t * 4 + 0), by rw [pk_mul, nI_add, Nat.mul_comm, Nat.add_zero], by omega, ?_⟩
    refine ⟨190 + (t * 4 + 1), ix_4 190 t 1, by omega, ?_⟩
    refine ⟨190 + (t * 4 + 2), ix_4 190 t 2, by omega, ?_⟩
    rw [← eM] at hK
    rw [e0, e1, e2]
    refine ⟨fun h1 => ?_, fun h1 => ?_⟩
    · have h2 : ¬ vCo v (t * 4 + 0) + vCo v (t * 4 + 1) + vCo v (t * 4 + 2) = 0 := h1
      rw [if_neg h2] at hK
      refine ⟨190 + (t * 4 + 1), ix_4 190 t 1, by omega, ?_⟩
      rw [e1]
      exact ⟨fp_quot _ _ h2, hK⟩
    · have h2 : vCo v (t * 4 + 0) + vCo v (t * 4 + 1) + vCo v (t * 4 + 2) = 0 := h1
      rw [if_pos h2] at hK
      exact hK
  · rw [inIB_f q0 rfl (by decide)]
    first | refine ⟨fun h => absurd h (by decide), fun _ => ?_⟩ | refine ⟨fun _ => ?_, fun h => absurd h (by decide)⟩
    obtain ⟨rfl, rfl⟩ := hr.2 q0
    refine ⟨_, R, P, S, sf, tg, _, _, _, at0, nu, _, [], rfl, rfl, ?_⟩
    exact hK _ ⟨R, P, S, tg, at0, nu, rfl, hrl, hhr, hsl⟩
end MM17

/-! PartitionedCacheModel: the reader, against the class's automaton. -/
section MM13
variable {ch : Nat → Nat} {n : Nat}
theorem fe_step {i st nu : Nat} (hi : i < n) : feR ch n (n - i) i st nu = if stgA st nu (ch i) = 0 then some i else feR ch n (n - (i + 1)) (i + 1) (stgA st nu (ch i)) (if stgA st nu (ch i) = 4 then (if st = 4 then nu * 10 else 0) + ch i - 48 else nu) := by
  obtain ⟨d, hd⟩ : ∃ d, n - i = d + 1 := ⟨n - i - 1, by omega⟩
  have hd9 : n - (i + 1) = d := by omega
  rw [hd, hd9]
  rfl
theorem fe_nu : ∀ (f i st nu nu' : Nat), ¬ st = 4 → feR ch n f i st nu = feR ch n f i st nu'
  | 0, _, _, _, _, _ => rfl
  | f + 1, i, st, nu, nu', h => by
    have e : stgA st nu (ch i) = stgA st nu' (ch i) := by
      unfold stgA
      simp only [if_neg h]
    unfold feR
    rw [e]
    by_cases c0 : stgA st nu' (ch i) = 0
    · rw [if_pos c0, if_pos c0]
    · rw [if_neg c0, if_neg c0]
      by_cases c4 : stgA st nu' (ch i) = 4
      · rw [if_pos c4, if_pos c4, if_neg h, if_neg h]
      · rw [if_neg c4, if_neg c4]
        exact fe_nu f (i + 1) _ nu nu' c4
theorem fe_bad {i st nu : Nat} (hi : i ≤ n) (h : i < n → stgA st nu (ch i) = 0) (hs : ¬ (st = 4 ∨ st = 6)) : feR ch n (n - i) i st nu = some i := by
  by_cases c : i < n
  · rw [fe_step c, if_pos (h c)]
  · have : i = n := by omega
    subst this
    rw [Nat.sub_self]
    unfold feR
    rw [if_neg hs]
theorem fe_go {i st nu s2 : Nat} (hi : i < n) (h : stgA st nu (ch i) = s2) (h0 : ¬ s2 = 0) (h4 : ¬ s2 = 4) : feR ch n (n - i) i st nu = feR ch n (n - (i + 1)) (i + 1) s2 0 := by
  rw [fe_step hi, h, if_neg h0, if_neg h4]
  exact fe_nu _ _ _ _ _ h4
theorem nm_step {q acc : Nat} (hq : q < n) (h : 48 ≤ ch q ∧ ch q ≤ 57) : numN ch (n - q) q acc = numN ch (n - (q + 1)) (q + 1) (acc * 10 + ch q - 48) := by
  obtain ⟨d, hd⟩ : ∃ d, n - q = d + 1 := ⟨n - q - 1, by omega⟩
  have hd9 : n - (q + 1) = d := by omega
  rw [hd, hd9]
  exact if_pos h
theorem nm_end {q acc : Nat} (h : q < n → ¬ (48 ≤ ch q ∧ ch q ≤ 57)) : numN ch (n - q) q acc = acc := by
  by_cases c : q < n
  · obtain ⟨d, hd⟩ : ∃ d, n - q = d + 1 := ⟨n - q - 1, by omega⟩
    rw [hd]
    exact if_neg (h c)
  · rw [show n - q = 0 by omega]
    rfl
theorem seB_t {p lo hi : Nat} (h : p < n ∧ lo ≤ ch p ∧ ch p ≤ hi) : seB ch n p lo hi = true := decide_eq_true h
theorem seB_f {p lo hi : Nat} (h : ¬ (p < n ∧ lo ≤ ch p ∧ ch p ≤ hi)) : seB ch n p lo hi = false := decide_eq_false h
theorem tk_t {p c : Nat} (h : p < n ∧ ch p = c) : seB ch n p c c = true ∧ tkN ch n p c = p + 1 := by
  have e : seB ch n p c c = true := seB_t ⟨h.1, by omega, by omega⟩
  exact ⟨e, if_pos e⟩
theorem tk_f {p c : Nat} (h : ¬ (p < n ∧ ch p = c)) : seB ch n p c c = false ∧ tkN ch n p c = p := by
  have e : seB ch n p c c = false := seB_f (fun q => h ⟨q.1, by omega⟩)
  exact ⟨e, if_neg (by rw [e]; decide)⟩
def rd0 (ch : Nat → Nat) (n p q m : Nat) : Prop := p < q ∧ q ≤ n ∧ m < 256 ∧ feR ch n (n - p) p 3 0 = feR ch n (n - q) q 4 m ∧ (∀ j, p ≤ j → j < q → 48 ≤ ch j ∧ ch j ≤ 57) ∧ numN ch (n - p) p 0 = numN ch (n - q) q m
theorem rd_0 {p : Nat} (hp : p < n) (hd : 48 ≤ ch p ∧ ch p ≤ 57) : rd0 ch n p (p + 1) (ch p - 48) := by
  have e4 : stgA 3 0 (ch p) = 4 := by
    show (if 48 ≤ ch p ∧ ch p ≤ 57 then 4 else 0) = 4
    rw [if_pos hd]
  refine ⟨by omega, by omega, by omega, ?_, fun j h1 h2 => ?_, ?_⟩
  · rw [fe_step hp, e4, if_neg (by decide), if_pos rfl, if_neg (by decide), Nat.zero_add]
  · have : j = p := by omega
    rw [this]
    exact hd
  · rw [nm_step hp hd, Nat.zero_mul, Nat.zero_add]
theorem rd_s {p q m : Nat} (h : rd0 ch n p q m) (hq : q < n) (hd : 48 ≤ ch q ∧ ch q ≤ 57) (h0 : 0 < m) (h9 : m * 10 + ch q - 48 ≤ 255) : rd0 ch n p (q + 1) (m * 10 + ch q - 48) := by
  obtain ⟨r1, r2, r3, r4, r5, r6⟩ := h
  have e4 : stgA 4 m (ch q) = 4 := by
    show (if ch q = 59 then 1 else if (48 ≤ ch q ∧ ch q ≤ 57) ∧ ¬ m = 0 ∧ m * 10 + (ch q - 48) < 256 then 4 else 0) = 4
    rw [if_neg (by omega), if_pos ⟨hd, by omega, by omega⟩]
  refine ⟨by omega, by omega, by omega, ?_, fun j h1 h2 => ?_, ?_⟩
  · rw [r4, fe_step hq, e4, if_neg (by decide), if_pos rfl, if_pos rfl]
  · by_cases c : j = q
    · rw [c]
      exact hd
    · exact r5 j h1 (by omega)
  · rw [r6, nm_step hq hd]
theorem rd_end {m c : Nat} (h : m = 0 ∨ ¬ (48 ≤ c ∧ c ≤ 57) ∨ 255 < m * 10 + c - 48) : ¬ stgA 4 m c = 4 := by
  show ¬ (if c = 59 then 1 else if (48 ≤ c ∧ c ≤ 57) ∧ ¬ m = 0 ∧ m * 10 + (c - 48) < 256 then 4 else 0) = 4
  split
  · decide
  · rw [if_neg (by omega)]
    decide
def sX7_reads : gS := fun av es K => ∃ n p ch R P S hs tg st nu th r, av = [.ref 0] ∧ n ≤ 80 ∧ p ≤ n ∧ (∀ j, j < n → ch j < 1000) ∧ es = mdW R P S hs tg (nF ch) st (nI n) (nI p) nu th r ∧ (¬ (p < n ∧ 48 ≤ ch p ∧ ch p ≤ 57) → K (some (.int (nI 0))) es) ∧ (∀ q m, p < n → 48 ≤ ch p ∧ ch p ≤ 57 → rd0 ch n p q m → (q < n → ¬ stgA 4 m (ch q) = 4) → K (some (.int (nI 1))) (mdW R P S hs tg (nF ch) st (nI n) (nI q) (nI m) th r))
def rmX7_reads : Room := { frames := 2, cells := 0, slots := 0, locals := 44 }
def pX7_reads (K : gK) : List (Nat × gO) := [(0, oFR 7 (oALoad 0)), (1, oConst (nI 48)), (3, oConst (nI 57)), (5, oCallV0 0 0 7 2 sX7_sees), (8, oFR 7 (oIf_ne 13)), (11, oConst (nI 0)), (12, oRetZ K 0 0), (13, oALoad 0), (14, oALoad 0), (15, oGet 7 6), (18, oALoad 0), (19, oGet 7 8), (22, oIALd 0), (23, oConst (nI 48)), (25, oSub), (26, oPutI 7 9), (29, oFR 7 (oALoad 0)), (30, oDup), (31, oGet 7 8), (34, oConst (nI 1)), (35, oAdd), (36, oPutI 7 8), (39, oFR 7 (oALoad 0)), (40, oGet 7 9), (43, oIf_le 120), (46, oALoad 0), (47, oConst (nI 48)), (49, oConst (nI 57)), (51, oCallV0 0 0 7 2 sX7_sees), (54, oFR 7 (oIf_eq 120)), (57, oConst (nI 10)), (59, oALoad 0), (60, oGet 7 9), (63, oMul), (64, oALoad 0), (65, oGet 7 6), (68, oALoad 0), (69, oGet 7 8), (72, oIALd 0), (73, oAdd), (74, oConst (nI 48)), (76, oSub), (77, oConst (nI 255)), (80, oICmp_gt 120), (83, oALoad 0), (84, oConst (nI 10)), (86, oALoad 0), (87, oGet 7 9), (90, oMul), (91, oALoad 0), (92, oGet 7 6), (95, oALoad 0), (96, oGet 7 8), (99, oIALd 0), (100, oAdd), (101, oConst (nI 48)), (103, oSub), (104, oPutI 7 9), (107, oFR 7 (oALoad 0)), (108, oDup), (109, oGet 7 8), (112, oConst (nI 1)), (113, oAdd), (114, oPutI 7 8), (117, oGoto 39), (120, oConst (nI 1)), (121, oFR 7 (oRetZ K 0 0))]
set_option maxRecDepth 100000 in
theorem kX7_reads {X : gX} {l : Launch} (hM : gM X l cX7_reads RX7 wsX7_reads rmX7_reads) {K : gK} (hE : gR X K 0 0 (some .boolean)) (hnL : X.2.2.2.2.2.2.2.2.2.2.2.2.2.2.2.2 = 1) : okL X (pX7_reads K) := by
  obtain ⟨p, l1, e, R, s, m, args, below, meth, c, D, cA, A, ag, ad0, Q, nL⟩ := X
  cases hnL
  refine ⟨ok_FR (ok_aload_n hM 0 dX7_reads_0 rfl),
    ok_bipush hM dX7_reads_1 rfl,
    ok_bipush hM dX7_reads_3 rfl,
    ok_callV0 hM (ctX7_sees l) rfl gX7_reads_X7_sees rfl rfl rfl (by decide +kernel) (by decide) dX7_reads_5,
    ok_FR (ok_if_ne hM 13 dX7_reads_8 (by decide)),
    ok_iconst hM dX7_reads_11 rfl,
    ok_retZ hM hE dX7_reads_12,
    ok_aload_n hM 0 dX7_reads_13 rfl,
    ok_aload_n hM 0 dX7_reads_14 rfl,
    ok_get (C := RX7) (T := TX7) (Nf := 11) hM (fun _ h => List.mem_cons_of_mem _ (List.mem_append_right _ h)) rfl 6 (by decide) (List.mem_of_getElem? (i := 1) rfl) rfl dX7_reads_15,
    ok_aload_n hM 0 dX7_reads_18 rfl,
    ok_get (C := RX7) (T := TX7) (Nf := 11) hM (fun _ h => List.mem_cons_of_mem _ (List.mem_append_right _ h)) rfl 8 (by decide) (List.mem_of_getElem? (i := 2) rfl) rfl dX7_reads_19,
    ok_iald hM dX7_reads_22,
    ok_bipush hM dX7_reads_23 rfl,
    ok_isub hM dX7_reads_25,
    ok_putI (C := RX7) (T := TX7) (Nf := 11) hM (fun _ h => List.mem_cons_of_mem _ (List.mem_append_right _ h)) tyX7 tyX7_ok nmX7 rfl 9 (by decide) (List.mem_of_getElem? (i := 3) rfl) rfl rfl (by decide +kernel) dX7_reads_26,
    ok_FR (ok_aload_n hM 0 dX7_reads_29 rfl),
    ok_dup hM dX7_reads_30,
    ok_get (C := RX7) (T := TX7) (Nf := 11) hM (fun _ h => List.mem_cons_of_mem _ (List.mem_append_right _ h)) rfl 8 (by decide) (List.mem_of_getElem? (i := 2) rfl) rfl dX7_reads_31,
    ok_iconst hM dX7_reads_34 rfl,
    ok_iadd hM dX7_reads_35,
    ok_putI (C := RX7) (T := TX7) (Nf := 11) hM (fun _ h => List.mem_cons_of_mem _ (List.mem_append_right _ h)) tyX7 tyX7_ok nmX7 rfl 8 (by decide) (List.mem_of_getElem? (i := 2) rfl) rfl rfl (by decide +kernel) dX7_reads_36,
    ok_FR (ok_aload_n hM 0 dX7_reads_39 rfl),
    ok_get (C := RX7) (T := TX7) (Nf := 11) hM (fun _ h => List.mem_cons_of_mem _ (List.mem_append_right _ h)) rfl 9 (by decide) (List.mem_of_getElem? (i := 3) rfl) rfl dX7_reads_40,
    ok_if_le hM 120 dX7_reads_43 (by decide),
    ok_aload_n hM 0 dX7_reads_46 rfl,
    ok_bipush hM dX7_reads_47 rfl,
    ok_bipush hM dX7_reads_49 rfl,
    ok_callV0 hM (ctX7_sees l) rfl gX7_reads_X7_sees rfl rfl rfl (by decide +kernel) (by decide) dX7_reads_51,
    ok_FR (ok_if_eq hM 120 dX7_reads_54 (by decide)),
    ok_bipush hM dX7_reads_57 rfl,
    ok_aload_n hM 0 dX7_reads_59 rfl,
    ok_get (C := RX7) (T := TX7) (Nf := 11) hM (fun _ h => List.mem_cons_of_mem _ (List.mem_append_right _ h)) rfl 9 (by decide) (List.mem_of_getElem? (i := 3) rfl) rfl dX7_reads_60,
    ok_imul hM dX7_reads_63,
    ok_aload_n hM 0 dX7_reads_64 rfl,
    ok_get (C := RX7) (T := TX7) (Nf := 11) hM (fun _ h => List.mem_cons_of_mem _ (List.mem_append_right _ h)) rfl 6 (by decide) (List.mem_of_getElem? (i := 1) rfl) rfl dX7_reads_65,
    ok_aload_n hM 0 dX7_reads_68 rfl,
    ok_get (C := RX7) (T := TX7) (Nf := 11) hM (fun _ h => List.mem_cons_of_mem _ (List.mem_append_right _ h)) rfl 8 (by decide) (List.mem_of_getElem? (i := 2) rfl) rfl dX7_reads_69,
    ok_iald hM dX7_reads_72,
    ok_iadd hM dX7_reads_73,
    ok_bipush hM dX7_reads_74 rfl,
    ok_isub hM dX7_reads_76,
    ok_sipush hM dX7_reads_77 rfl,
    ok_icmp_gt hM 120 dX7_reads_80 (by decide),
    ok_aload_n hM 0 dX7_reads_83 rfl,
    ok_bipush hM dX7_reads_84 rfl,
    ok_aload_n hM 0 dX7_reads_86 rfl,
    ok_get (C := RX7) (T := TX7) (Nf := 11) hM (fun _ h => List.mem_cons_of_mem _ (List.mem_append_right _ h)) rfl 9 (by decide) (List.mem_of_getElem? (i := 3) rfl) rfl dX7_reads_87,
    ok_imul hM dX7_reads_90,
    ok_aload_n hM 0 dX7_reads_91 rfl,
    ok_get (C := RX7) (T := TX7) (Nf := 11) hM (fun _ h => List.mem_cons_of_mem _ (List.mem_append_right _ h)) rfl 6 (by decide) (List.mem_of_getElem? (i := 1) rfl) rfl dX7_reads_92,
    ok_aload_n hM 0 dX7_reads_95 rfl,
    ok_get (C := RX7) (T := TX7) (Nf := 11) hM (fun _ h => List.mem_cons_of_mem _ (List.mem_append_right _ h)) rfl 8 (by decide) (List.mem_of_getElem? (i := 2) rfl) rfl dX7_reads_96,
    ok_iald hM dX7_reads_99,
    ok_iadd hM dX7_reads_100,
    ok_bipush hM dX7_reads_101 rfl,
    ok_isub hM dX7_reads_103,
    ok_putI (C := RX7) (T := TX7) (Nf := 11) hM (fun _ h => List.mem_cons_of_mem _ (List.mem_append_right _ h)) tyX7 tyX7_ok nmX7 rfl 9 (by decide) (List.mem_of_getElem? (i := 3) rfl) rfl rfl (by decide +kernel) dX7_reads_104,
    ok_FR (ok_aload_n hM 0 dX7_reads_107 rfl),
    ok_dup hM dX7_reads_108,
    ok_get (C := RX7) (T := TX7) (Nf := 11) hM (fun _ h => List.mem_cons_of_mem _ (List.mem_append_right _ h)) rfl 8 (by decide) (List.mem_of_getElem? (i := 2) rfl) rfl dX7_reads_109,
    ok_iconst hM dX7_reads_112 rfl,
    ok_iadd hM dX7_reads_113,
    ok_putI (C := RX7) (T := TX7) (Nf := 11) hM (fun _ h => List.mem_cons_of_mem _ (List.mem_append_right _ h)) tyX7 tyX7_ok nmX7 rfl 8 (by decide) (List.mem_of_getElem? (i := 2) rfl) rfl rfl (by decide +kernel) dX7_reads_114,
    ok_goto hM 39 dX7_reads_117 (by decide),
    ok_iconst hM dX7_reads_120 rfl,
    ok_FR (ok_retZ hM hE dX7_reads_121),
    trivial⟩
set_option maxRecDepth 100000 in
theorem ctX7_reads (l : Launch) : Ct l yX7_reads wsX7_reads rmX7_reads 0 0 false sX7_reads := by
  refine ct_of (own := RX7) (cc := cX7_reads) (maxL := 1) (ret := (some .boolean)) (by decide) rfl rfl (by rintro _ _ _ ⟨n, p, ch, R, P, S, hs, tg, st, nu, th, r, rfl, hn, hp, hch, rfl, hK0, hK1⟩; exact Nat.le_of_ble_eq_true rfl) ?_
  intro X av es K hM hE hag hin hnL hsp
  obtain ⟨n, p, ch, R, P, S, hs, tg, st, nu, th, r, rfl, hn, hp, hch, rfl, hK0, hK1⟩ := hsp
  have hf := kX7_reads hM hE hnL
  refine g_with (X := X) 39 [0] (fun μ vs es k n9 => ∃ q m : Nat, μ = n - q ∧ p < n ∧ (48 ≤ ch p ∧ ch p ≤ 57) ∧ rd0 ch n p q m ∧ vs = [.ref 0] ∧ es = mdW R P S hs tg (nF ch) st (nI n) (nI q) (nI m) th r ∧ k = 0 ∧ n9 = 0) cut_nil (fun μ hc vs es k n9 hI => ?_) (fun hc => ?_)
  · obtain ⟨q, m, rfl, hpn, hpd, hrd, rfl, rfl, rfl, rfl⟩ := hI
    obtain ⟨r1, r2, r3, -⟩ := id hrd
    refine g_go hf hc 5 ?_
    refine ⟨fun h => ?_, fun h => ?_⟩
    · have h0 : m = 0 := by
        rcases Nat.eq_zero_or_pos m with q | q
        · exact q
        · exact absurd h (nI_nle q (by omega))
      exact ⟨by decide, hK1 q m hpn hpd hrd (fun _ => rd_end (Or.inl h0))⟩
    · have h0 : 0 < m := by
        rcases Nat.eq_zero_or_pos m with q | q
        · subst q; exact absurd (by decide) h
        · exact q
      refine ⟨_, _, 48, 57, n, q, ch, R, P, S, hs, tg, st, _, th, r, rfl, rfl, rfl, by decide, by decide, hn, by omega, hch, rfl, ?_⟩
      by_cases c : q < n ∧ 48 ≤ ch q ∧ ch q ≤ 57
      · rw [seB_t c]
        refine ⟨fun h => absurd h (by decide), fun _ => ?_⟩
        refine ⟨q, rfl, by omega, ?_⟩
        have e3 : nI 10 * nI m + nF ch q - nI 48 = nI (m * 10 + ch q - 48) := by
          show nI 10 * nI m + nI (ch q) - nI 48 = _
          rw [pk_mul, nI_add, pk_sub (by omega), Nat.mul_comm]
        have hcq := hch q c.1
        refine ⟨fun h5 => ?_, fun h5 => ?_⟩
        · have h5 : nI 255 < nI 10 * nI m + nF ch q - nI 48 := by first | exact h5 | exact Int32.not_le.mp h5
          rw [e3, nI_ltI (by decide) (by omega)] at h5
          exact ⟨by decide, hK1 q m hpn hpd hrd (fun _ => rd_end (Or.inr (Or.inr h5)))⟩
        · have h5 : nI 10 * nI m + nF ch q - nI 48 ≤ nI 255 := by first | exact h5 | exact Int32.not_lt.mp h5
          rw [e3, nI_leI (by omega) (by decide)] at h5
          refine ⟨q, rfl, by omega, ?_⟩
          exact ⟨n - (q + 1), by omega, q + 1, m * 10 + ch q - 48, rfl, hpn, hpd, rd_s hrd c.1 c.2 h0 h5, rfl, by rw [← e3, ← nI_add] <;> rfl, rfl, rfl⟩
      · rw [seB_f c]
        refine ⟨fun _ => ?_, fun h => absurd rfl h⟩
        exact ⟨by decide, hK1 q m hpn hpd hrd (fun hq => rd_end (Or.inr (Or.inl (fun z => c ⟨hq, z⟩))))⟩
  · refine wr_ok hf hc 5 0 _ _ _ _ _ ?_
    refine ⟨_, _, 48, 57, n, p, ch, R, P, S, hs, tg, st, _, th, r, rfl, rfl, rfl, by decide, by decide, hn, by omega, hch, rfl, ?_⟩
    by_cases c : p < n ∧ 48 ≤ ch p ∧ ch p ≤ 57
    · rw [seB_t c]
      refine ⟨fun _ => ?_, fun h => absurd h (by decide)⟩
      refine ⟨p, rfl, by omega, ?_⟩
      have e3 : nF ch p - nI 48 = nI (ch p - 48) := pk_sub c.2.1
      exact ⟨n - (p + 1), p + 1, ch p - 48, rfl, c.1, c.2, rd_0 c.1 c.2, rfl, by rw [← e3, ← nI_add] <;> rfl, rfl, rfl⟩
    · rw [seB_f c]
      refine ⟨fun h => absurd rfl h, fun _ => ?_⟩
      exact ⟨by decide, hK0 c⟩
def cmOK (ch : Nat → Nat) (n p k q : Nat) (nu' : Int32) : Prop := p < q ∧ q ≤ n ∧ (∀ j, p ≤ j → j < q → ¬ ch j = 59) ∧ ∃ st m, (st = 4 ∨ st = 6) ∧ feR ch n (n - p) p 1 0 = feR ch n (n - q) q st m ∧ (q < n → st = 4 → ¬ stgA 4 m (ch q) = 4) ∧ ((ch p = 109 ∧ k = 2) ∨ (ch p = 104 ∧ k = 3) ∨ (ch p = 102 ∧ 48 ≤ ch (p + 1) ∧ ch (p + 1) < 52 ∧ k = 4 * (ch (p + 1) - 48) + 1) ∨ (48 ≤ ch p ∧ ch p < 52 ∧ k = 4 * (ch p - 48) ∧ st = 4 ∧ m < 256 ∧ nu' = nI m ∧ numN ch (n - (p + 2)) (p + 2) 0 = numN ch (n - q) q m))
theorem stg_1 (nu c : Nat) : stgA 1 nu c = stg1 c := rfl
def sX7_command : gS := fun av es K => ∃ n p ch R P S hs tg st nu th r, av = [.ref 0] ∧ n ≤ 80 ∧ p ≤ n ∧ (∀ j, j < n → ch j < 1000) ∧ es = mdW R P S hs tg (nF ch) st (nI n) (nI p) nu th r ∧ (∀ q, q ≤ n → feR ch n (n - p) p 1 0 = some q → K (some (.int (-1))) (mdW R P S hs tg (nF ch) st (nI n) (nI q) nu th r)) ∧ (∀ k q nu', k < 20 → cmOK ch n p k q nu' → K (some (.int (nI k))) (mdW R P S hs tg (nF ch) st (nI n) (nI q) nu' th r))
def rmX7_command : Room := { frames := 3, cells := 0, slots := 0, locals := 66 }
def pX7_command (K : gK) : List (Nat × gO) := [(0, oFR 7 (oALoad 0)), (1, oConst (nI 109)), (3, oCallV0 0 0 7 1 sX7_takes), (6, oFR 7 (oIf_eq 11)), (9, oConst (nI 2)), (10, oRet K 0 0), (11, oALoad 0), (12, oConst (nI 104)), (14, oCallV0 0 0 7 1 sX7_takes), (17, oFR 7 (oIf_eq 22)), (20, oConst (nI 3)), (21, oRet K 0 0), (22, oALoad 0), (23, oConst (nI 102)), (25, oCallV0 0 0 7 1 sX7_takes), (28, oFR 7 (oIStore 3 1)), (29, oFR 7 (oALoad 0)), (30, oConst (nI 48)), (32, oConst (nI 51)), (34, oCallV0 0 0 7 2 sX7_sees), (37, oFR 7 (oIf_ne 42)), (40, oConst (-1)), (41, oRet K 0 0), (42, oALoad 0), (43, oGet 7 6), (46, oALoad 0), (47, oGet 7 8), (50, oIALd 0), (51, oConst (nI 48)), (53, oSub), (54, oIStore 3 2), (55, oFR 7 (oALoad 0)), (56, oDup), (57, oGet 7 8), (60, oConst (nI 1)), (61, oAdd), (62, oPutI 7 8), (65, oFR 7 (oILoad 1)), (66, oIf_eq 75), (69, oConst (nI 4)), (70, oILoad 2), (71, oMul), (72, oConst (nI 1)), (73, oAdd), (74, oRet K 0 0), (75, oALoad 0), (76, oConst (nI 58)), (78, oCallV0 0 0 7 1 sX7_takes), (81, oFR 7 (oIf_eq 97)), (84, oALoad 0), (85, oCallV0 0 0 7 0 sX7_reads), (88, oFR 7 (oIf_eq 97)), (91, oConst (nI 4)), (92, oILoad 2), (93, oMul), (94, oGoto 98), (97, oConst (-1)), (98, oRet K 0 0)]
set_option maxRecDepth 100000 in
theorem kX7_command {X : gX} {l : Launch} (hM : gM X l cX7_command RX7 wsX7_command rmX7_command) {K : gK} (hE : gR X K 0 0 (some .int)) (hnL : X.2.2.2.2.2.2.2.2.2.2.2.2.2.2.2.2 = 3) : okL X (pX7_command K) := by
  obtain ⟨p, l1, e, R, s, m, args, below, meth, c, D, cA, A, ag, ad0, Q, nL⟩ := X
  cases hnL
  refine ⟨ok_FR (ok_aload_n hM 0 dX7_command_0 rfl),
    ok_bipush hM dX7_command_1 rfl,
    ok_callV0 hM (ctX7_takes l) rfl gX7_command_X7_takes rfl rfl rfl (by decide +kernel) (by decide) dX7_command_3,
    ok_FR (ok_if_eq hM 11 dX7_command_6 (by decide)),
    ok_iconst hM dX7_command_9 rfl,
    ok_ret hM hE dX7_command_10,
    ok_aload_n hM 0 dX7_command_11 rfl,
    ok_bipush hM dX7_command_12 rfl,
    ok_callV0 hM (ctX7_takes l) rfl gX7_command_X7_takes rfl rfl rfl (by decide +kernel) (by decide) dX7_command_14,
    ok_FR (ok_if_eq hM 22 dX7_command_17 (by decide)),
    ok_iconst hM dX7_command_20 rfl,
    ok_ret hM hE dX7_command_21,
    ok_aload_n hM 0 dX7_command_22 rfl,
    ok_bipush hM dX7_command_23 rfl,
    ok_callV0 hM (ctX7_takes l) rfl gX7_command_X7_takes rfl rfl rfl (by decide +kernel) (by decide) dX7_command_25,
    ok_FR (ok_istore_n hM 1 dX7_command_28 rfl),
    ok_FR (ok_aload_n hM 0 dX7_command_29 rfl),
    ok_bipush hM dX7_command_30 rfl,
    ok_bipush hM dX7_command_32 rfl,
    ok_callV0 hM (ctX7_sees l) rfl gX7_command_X7_sees rfl rfl rfl (by decide +kernel) (by decide) dX7_command_34,
    ok_FR (ok_if_ne hM 42 dX7_command_37 (by decide)),
    ok_iconst hM dX7_command_40 rfl,
    ok_ret hM hE dX7_command_41,
    ok_aload_n hM 0 dX7_command_42 rfl,
    ok_get (C := RX7) (T := TX7) (Nf := 11) hM (fun _ h => List.mem_cons_of_mem _ (List.mem_append_right _ h)) rfl 6 (by decide) (List.mem_of_getElem? (i := 1) rfl) rfl dX7_command_43,
    ok_aload_n hM 0 dX7_command_46 rfl,
    ok_get (C := RX7) (T := TX7) (Nf := 11) hM (fun _ h => List.mem_cons_of_mem _ (List.mem_append_right _ h)) rfl 8 (by decide) (List.mem_of_getElem? (i := 2) rfl) rfl dX7_command_47,
    ok_iald hM dX7_command_50,
    ok_bipush hM dX7_command_51 rfl,
    ok_isub hM dX7_command_53,
    ok_istore_n hM 2 dX7_command_54 rfl,
    ok_FR (ok_aload_n hM 0 dX7_command_55 rfl),
    ok_dup hM dX7_command_56,
    ok_get (C := RX7) (T := TX7) (Nf := 11) hM (fun _ h => List.mem_cons_of_mem _ (List.mem_append_right _ h)) rfl 8 (by decide) (List.mem_of_getElem? (i := 2) rfl) rfl dX7_command_57,
    ok_iconst hM dX7_command_60 rfl,
    ok_iadd hM dX7_command_61,
    ok_putI (C := RX7) (T := TX7) (Nf := 11) hM (fun _ h => List.mem_cons_of_mem _ (List.mem_append_right _ h)) tyX7 tyX7_ok nmX7 rfl 8 (by decide) (List.mem_of_getElem? (i := 2) rfl) rfl rfl (by decide +kernel) dX7_command_62,
    ok_FR (ok_iload_n hM 1 dX7_command_65 rfl),
    ok_if_eq hM 75 dX7_command_66 (by decide),
    ok_iconst hM dX7_command_69 rfl,
    ok_iload_n hM 2 dX7_command_70 rfl,
    ok_imul hM dX7_command_71,
    ok_iconst hM dX7_command_72 rfl,
    ok_iadd hM dX7_command_73,
    ok_ret hM hE dX7_command_74,
    ok_aload_n hM 0 dX7_command_75 rfl,
    ok_bipush hM dX7_command_76 rfl,
    ok_callV0 hM (ctX7_takes l) rfl gX7_command_X7_takes rfl rfl rfl (by decide +kernel) (by decide) dX7_command_78,
    ok_FR (ok_if_eq hM 97 dX7_command_81 (by decide)),
    ok_aload_n hM 0 dX7_command_84 rfl,
    ok_callV0 hM (ctX7_reads l) rfl gX7_command_X7_reads rfl rfl rfl (by decide +kernel) (by decide) dX7_command_85,
    ok_FR (ok_if_eq hM 97 dX7_command_88 (by decide)),
    ok_iconst hM dX7_command_91 rfl,
    ok_iload_n hM 2 dX7_command_92 rfl,
    ok_imul hM dX7_command_93,
    ok_goto hM 98 dX7_command_94 (by decide),
    ok_iconst hM dX7_command_97 rfl,
    ok_ret hM hE dX7_command_98,
    trivial⟩
set_option maxRecDepth 100000 in
theorem ctX7_command (l : Launch) : Ct l yX7_command wsX7_command rmX7_command 0 0 false sX7_command := by
  refine ct_of (own := RX7) (cc := cX7_command) (maxL := 3) (ret := (some .int)) (by decide) rfl rfl (by rintro _ _ _ ⟨n, p, ch, R, P, S, hs, tg, st, nu, th, r, rfl, hn, hp, hch, rfl, hK0, hK1⟩; exact Nat.le_of_ble_eq_true rfl) ?_
  intro X av es K hM hE hag hin hnL hsp
  obtain ⟨n, p, ch, R, P, S, hs, tg, st, nu, th, r, rfl, hn, hp, hch, rfl, hK0, hK1⟩ := hsp
  have hf := kX7_command hM hE hnL
  refine wr_ok hf cut_nil 14 0 _ _ _ _ _ ?_
  refine ⟨_, 109, n, p, ch, R, P, S, hs, tg, st, _, th, r, rfl, rfl, by decide, hn, by omega, hch, rfl, ?_⟩
  by_cases c1 : p < n ∧ ch p = 109
  · obtain ⟨s1, s2⟩ := tk_t c1
    rw [s1, s2]
    refine ⟨fun h => absurd h (by decide), fun _ => ?_⟩
    exact hK1 2 (p + 1) nu (by decide) ⟨by omega, by omega, fun j h1 h2 => by rw [show j = p by omega, c1.2]; decide, 6, 0, Or.inr rfl, fe_go c1.1 (by rw [c1.2]; rfl) (by decide) (by decide), fun _ h => absurd h (by decide), Or.inl ⟨c1.2, rfl⟩⟩
  obtain ⟨s1, s2⟩ := tk_f c1
  rw [s1, s2]
  refine ⟨fun _ => ?_, fun h => absurd rfl h⟩
  refine ⟨_, 104, n, p, ch, R, P, S, hs, tg, st, _, th, r, rfl, rfl, by decide, hn, by omega, hch, rfl, ?_⟩
  by_cases c2 : p < n ∧ ch p = 104
  · obtain ⟨s1, s2⟩ := tk_t c2
    rw [s1, s2]
    refine ⟨fun h => absurd h (by decide), fun _ => ?_⟩
    exact hK1 3 (p + 1) nu (by decide) ⟨by omega, by omega, fun j h1 h2 => by rw [show j = p by omega, c2.2]; decide, 6, 0, Or.inr rfl, fe_go c2.1 (by rw [c2.2]; rfl) (by decide) (by decide), fun _ h => absurd h (by decide), Or.inr (Or.inl ⟨c2.2, rfl⟩)⟩
  obtain ⟨s1, s2⟩ := tk_f c2
  rw [s1, s2]
  refine ⟨fun _ => ?_, fun h => absurd rfl h⟩
  refine ⟨_, 102, n, p, ch, R, P, S, hs, tg, st, _, th, r, rfl, rfl, by decide, hn, by omega, hch, rfl, ?_⟩
  by_cases c3 : p < n ∧ ch p = 102
  · obtain ⟨s1, s2⟩ := tk_t c3
    rw [s1, s2]
    have f1 : feR ch n (n - p) p 1 0 = feR ch n (n - (p + 1)) (p + 1) 5 0 := fe_go c3.1 (by rw [c3.2]; rfl) (by decide) (by decide)
    refine ⟨_, _, 48, 51, n, p + 1, ch, R, P, S, hs, tg, st, _, th, r, rfl, rfl, rfl, by decide, by decide, hn, by omega, hch, rfl, ?_⟩
    by_cases c4 : p + 1 < n ∧ 48 ≤ ch (p + 1) ∧ ch (p + 1) ≤ 51
    · rw [seB_t c4]
      refine ⟨fun _ => ?_, fun h => absurd h (by decide)⟩
      refine ⟨p + 1, rfl, by omega, ?_⟩
      refine ⟨fun h => absurd h (by decide), fun _ => ?_⟩
      have e3 : nI 4 * (nF ch (p + 1) - nI 48) + nI 1 = nI (4 * (ch (p + 1) - 48) + 1) := by
        show nI 4 * (nI (ch (p + 1)) - nI 48) + nI 1 = _
        rw [pk_sub c4.2.1, pk_mul, nI_add]
      have e5 : stgA 5 0 (ch (p + 1)) = 6 := by
        show (if 48 ≤ ch (p + 1) ∧ ch (p + 1) < 52 then 6 else 0) = 6
        rw [if_pos ⟨by omega, by omega⟩]
      have hK := hK1 (4 * (ch (p + 1) - 48) + 1) (p + 2) nu (by omega) ⟨by omega, by omega, fun j h1 h2 => by
        by_cases cj : j = p
        · rw [cj, c3.2]
          decide
        · rw [show j = p + 1 by omega]
          omega, 6, 0, Or.inr rfl, f1.trans (fe_go c4.1 e5 (by decide) (by decide)), fun _ h => absurd h (by decide), Or.inr (Or.inr (Or.inl ⟨c3.2, c4.2.1, by omega, rfl⟩))⟩
      rw [← e3, show p + 2 = p + 1 + 1 from rfl, ← nI_add] at hK
      exact hK
    · rw [seB_f c4]
      refine ⟨fun h => absurd rfl h, fun _ => ?_⟩
      refine hK0 (p + 1) (by omega) (f1.trans (fe_bad (by omega) (fun h => ?_) (by omega)))
      show (if 48 ≤ ch (p + 1) ∧ ch (p + 1) < 52 then 6 else 0) = 0
      rw [if_neg (by omega)]
  obtain ⟨s1, s2⟩ := tk_f c3
  rw [s1, s2]
  refine ⟨_, _, 48, 51, n, p, ch, R, P, S, hs, tg, st, _, th, r, rfl, rfl, rfl, by decide, by decide, hn, by omega, hch, rfl, ?_⟩
  by_cases c4 : p < n ∧ 48 ≤ ch p ∧ ch p ≤ 51
  · rw [seB_t c4]
    refine ⟨fun _ => ?_, fun h => absurd h (by decide)⟩
    refine ⟨p, rfl, by omega, ?_⟩
    refine ⟨fun _ => ?_, fun h => absurd rfl h⟩
    have e1 : nI p + nI 1 = nI (p + 1) := nI_add p 1
    rw [e1]
    have e2 : stgA 1 0 (ch p) = 2 := by
      show (if 48 ≤ ch p ∧ ch p < 52 then 2 else _) = 2
      rw [if_pos ⟨by omega, by omega⟩]
    have f1 : feR ch n (n - p) p 1 0 = feR ch n (n - (p + 1)) (p + 1) 2 0 := fe_go c4.1 e2 (by decide) (by decide)
    refine ⟨_, 58, n, p + 1, ch, R, P, S, hs, tg, st, _, th, r, rfl, rfl, by decide, hn, by omega, hch, rfl, ?_⟩
    by_cases c5 : p + 1 < n ∧ ch (p + 1) = 58
    · obtain ⟨s1, s2⟩ := tk_t c5
      rw [s1, s2]
      refine ⟨fun h => absurd h (by decide), fun _ => ?_⟩
      have f2 : feR ch n (n - (p + 1)) (p + 1) 2 0 = feR ch n (n - (p + 2)) (p + 2) 3 0 := fe_go c5.1 (by rw [c5.2]; rfl) (by decide) (by decide)
      refine ⟨n, p + 2, ch, R, P, S, hs, tg, st, nu, th, r, rfl, hn, by omega, hch, rfl, fun hno => ?_, fun q m h1 h2 hrd hst => ?_⟩
      · refine ⟨fun _ => ?_, fun h => absurd rfl h⟩
        refine hK0 (p + 2) (by omega) ((f1.trans f2).trans (fe_bad (by omega) (fun h => ?_) (by omega)))
        show (if 48 ≤ ch (p + 2) ∧ ch (p + 2) ≤ 57 then 4 else 0) = 0
        rw [if_neg (fun z => hno ⟨h, z⟩)]
      · refine ⟨fun h => absurd h (by decide), fun _ => ?_⟩
        obtain ⟨r1, r2, r3, r4, r5, r6⟩ := hrd
        have e3 : nI 4 * (nF ch p - nI 48) = nI (4 * (ch p - 48)) := by
          show nI 4 * (nI (ch p) - nI 48) = _
          rw [pk_sub c4.2.1, pk_mul]
        have hK := hK1 (4 * (ch p - 48)) q (nI m) (by omega) ⟨by omega, r2, fun j h1 h2 => by
          by_cases cj : j = p
          · rw [cj]
            omega
          · by_cases cj2 : j = p + 1
            · rw [cj2, c5.2]
              decide
            · have := r5 j (by omega) h2
              omega, 4, m, Or.inl rfl, (f1.trans f2).trans r4, fun h _ => hst h, Or.inr (Or.inr (Or.inr ⟨c4.2.1, by omega, rfl, rfl, r3, rfl, r6⟩))⟩
        rw [← e3] at hK
        exact hK
    · obtain ⟨s1, s2⟩ := tk_f c5
      rw [s1, s2]
      refine ⟨fun _ => ?_, fun h => absurd rfl h⟩
      refine hK0 (p + 1) (by omega) (f1.trans (fe_bad (by omega) (fun h => ?_) (by omega)))
      show (if ch (p + 1) = 58 then 3 else 0) = 0
      rw [if_neg (fun z => c5 ⟨h, z⟩)]
  · rw [seB_f c4]
    refine ⟨fun h => absurd rfl h, fun _ => ?_⟩
    refine hK0 p hp (fe_bad hp (fun h => ?_) (by omega))
    show (if 48 ≤ ch p ∧ ch p < 52 then 2 else if ch p = 102 then 5 else if ch p = 109 ∨ ch p = 104 then 6 else 0) = 0
    rw [if_neg (by omega), if_neg (fun z => c3 ⟨h, z⟩), if_neg (fun z => z.elim (fun z => c1 ⟨h, z⟩) (fun z => c2 ⟨h, z⟩))]
end MM13

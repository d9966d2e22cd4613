/-! PartitionedCacheModel: its public methods. -/
section MM15
theorem lfR_ok {v : gV} {R : Nat → Int32} (hk : vK v) (h : rl v R) : ∀ t, t < 4 → R (184 + t) = nI (lfv v t) ∧ lfv v t ≤ 2 := fun t ht => by
  rw [h.2.2.2.2.2.1 t ht]
  exact lfv_ok hk t ht
theorem ix_8 (b t w : Nat) : nI b + nI 8 * nI t + nI w = nI (b + (t * 8 + w)) := by rw [pk_mul, nI_add, nI_add, Nat.mul_comm, Nat.add_assoc]
theorem ix_4 (b t w : Nat) : nI b + nI 4 * nI t + nI w = nI (b + (t * 4 + w)) := by rw [pk_mul, nI_add, nI_add, Nat.mul_comm, Nat.add_assoc]
theorem ix_0 (w : Nat) : nI 0 + nI w = nI w := by rw [nI_add, Nat.zero_add]
def sX7_access : gS := fun av es K => ∃ c th x y k ans c', av = [.ref 0, .int x, .int y] ∧ inv c ∧ mW c th es ∧ r_access c x y k ans c' ∧ ∀ es', mW c' (nI k) es' → K (some (.int (an k ans))) es'
def rmX7_access : Room := { frames := 5, cells := 0, slots := 0, locals := 123 }
def pX7_access (K : gK) : List (Nat × gO) := [(0, oFR 7 (oALoad 0)), (1, oConst (nI 0)), (2, oPutI 7 10), (5, oFR 7 (oILoad 1)), (6, oConst (nI 0)), (7, oConst (nI 3)), (8, oSR 7 0 0 3 [] sX7_in), (11, oFR 7 (oIf_ne 20)), (14, oALoad 0), (15, oConst (nI 1)), (16, oCallV0 0 0 7 1 sX7_fails), (19, oFR 7 (oRet K 0 0)), (20, oILoad 2), (21, oConst (nI 0)), (22, oConst (nI 255)), (25, oSR 7 0 0 3 [] sX7_in), (28, oFR 7 (oIf_ne 37)), (31, oALoad 0), (32, oConst (nI 2)), (33, oCallV0 0 0 7 1 sX7_fails), (36, oFR 7 (oRet K 0 0)), (37, oALoad 0), (38, oCallV0 0 0 7 0 sX7_record), (41, oFR 7 (oALoad 0)), (42, oILoad 1), (43, oILoad 2), (44, oCallV0 0 0 7 2 sX7_visits), (47, oFR 7 (oRet K 0 0))]
set_option maxRecDepth 100000 in
theorem kX7_access {X : gX} {l : Launch} (hM : gM X l cX7_access RX7 wsX7_access rmX7_access) {K : gK} (hE : gR X K 0 0 (some .int)) (hnL : X.2.2.2.2.2.2.2.2.2.2.2.2.2.2.2.2 = 3) : okL X (pX7_access K) := by
  obtain ⟨p, l1, e, R, s, m, args, below, meth, c, D, cA, A, ag, ad0, Q, nL⟩ := X
  cases hnL
  refine ⟨ok_FR (ok_aload_n hM 0 dX7_access_0 rfl),
    ok_iconst hM dX7_access_1 rfl,
    ok_putI (C := RX7) (T := TX7) (Nf := 11) hM (fun _ h => List.mem_cons_of_mem _ (List.mem_append_right _ h)) tyX7 tyX7_ok nmX7 rfl 10 (by decide) (List.mem_of_getElem? (i := 1) rfl) rfl rfl (by decide +kernel) dX7_access_2,
    ok_FR (ok_iload_n hM 1 dX7_access_5 rfl),
    ok_iconst hM dX7_access_6 rfl,
    ok_iconst hM dX7_access_7 rfl,
    ok_SR (ok_callS hM [] (ctX7_in l) rfl gX7_access_X7_in rfl rfl rfl (by decide +kernel) (by decide) dX7_access_8),
    ok_FR (ok_if_ne hM 20 dX7_access_11 (by decide)),
    ok_aload_n hM 0 dX7_access_14 rfl,
    ok_iconst hM dX7_access_15 rfl,
    ok_callV0 hM (ctX7_fails l) rfl gX7_access_X7_fails rfl rfl rfl (by decide +kernel) (by decide) dX7_access_16,
    ok_FR (ok_ret hM hE dX7_access_19),
    ok_iload_n hM 2 dX7_access_20 rfl,
    ok_iconst hM dX7_access_21 rfl,
    ok_sipush hM dX7_access_22 rfl,
    ok_SR (ok_callS hM [] (ctX7_in l) rfl gX7_access_X7_in rfl rfl rfl (by decide +kernel) (by decide) dX7_access_25),
    ok_FR (ok_if_ne hM 37 dX7_access_28 (by decide)),
    ok_aload_n hM 0 dX7_access_31 rfl,
    ok_iconst hM dX7_access_32 rfl,
    ok_callV0 hM (ctX7_fails l) rfl gX7_access_X7_fails rfl rfl rfl (by decide +kernel) (by decide) dX7_access_33,
    ok_FR (ok_ret hM hE dX7_access_36),
    ok_aload_n hM 0 dX7_access_37 rfl,
    ok_callV0 hM (ctX7_record l) rfl gX7_access_X7_record rfl rfl rfl (by decide +kernel) (by decide) dX7_access_38,
    ok_FR (ok_aload_n hM 0 dX7_access_41 rfl),
    ok_iload_n hM 1 dX7_access_42 rfl,
    ok_iload_n hM 2 dX7_access_43 rfl,
    ok_callV0 hM (ctX7_visits l) rfl gX7_access_X7_visits rfl rfl rfl (by decide +kernel) (by decide) dX7_access_44,
    ok_FR (ok_ret hM hE dX7_access_47),
    trivial⟩
set_option maxRecDepth 100000 in
theorem ctX7_access (l : Launch) : Ct l yX7_access wsX7_access rmX7_access 0 0 false sX7_access := by
  refine ct_of (own := RX7) (cc := cX7_access) (maxL := 3) (ret := (some .int)) (by decide) rfl rfl (by rintro _ _ _ ⟨c, th, x, y, k, ans, c', rfl, hinv, hw, hr, hK⟩; exact Nat.le_of_ble_eq_true rfl) ?_
  intro X av es K hM hE hag hin hnL hsp
  obtain ⟨c, th, x, y, k, ans, c', rfl, hinv, hw, hr, hK⟩ := hsp
  have hf := kX7_access hM hE hnL
  obtain ⟨v, n, ch, H, o, s, sf, z0, z1⟩ := c
  obtain ⟨R, P, S, tg, at0, nu, rfl, hrl, hhr, hsl⟩ := hw
  obtain ⟨ho, hs, hn, hch, hk, hkH, hk0, hk1⟩ := hinv
  refine wr_ok hf cut_nil 9 0 _ _ _ _ _ ?_
  refine ⟨_, _, _, rfl, rfl, ?_⟩
  by_cases q0 : inI x 4
  · obtain ⟨t, ht, rfl⟩ := q0
    rw [inIB_t ⟨t, ht, rfl⟩ rfl (by decide)]
    first | refine ⟨fun h => absurd h (by decide), fun _ => ?_⟩ | refine ⟨fun _ => ?_, fun h => absurd h (by decide)⟩
    refine ⟨_, _, _, rfl, rfl, ?_⟩
    by_cases q1 : inA y 0 255
    · obtain ⟨a, ha0, ha, rfl⟩ := q1
      rw [inB_t ⟨a, ha0, ha, rfl⟩ (by decide)]
      first | refine ⟨fun h => absurd h (by decide), fun _ => ?_⟩ | refine ⟨fun _ => ?_, fun h => absurd h (by decide)⟩
      obtain ⟨rfl, ea, rfl⟩ := hr.1 t a ht ha rfl rfl
      refine ⟨s, R, P, S, sf, tg, _, _, at0, nu, _, [], rfl, hs, rfl, ?_⟩
      rw [qs_ps hs]
      refine ⟨_, _, t, a, v, lfv v, R, _, S, sf, tg, _, _, _, at0, nu, _, [], rfl, rfl, rfl, ht, by omega, hk, lfv_ok hk, hrl, rfl, fun R' tg' hR' => ?_⟩
      have hK := hK _ ⟨R', _, S, tg', at0, nu, rfl, hR', hr_push ho hs hhr hrl, hsl⟩
      rw [ea] at hK
      exact hK
    · rw [inB_f q1 (by decide) (by decide)]
      first | refine ⟨fun h => absurd h (by decide), fun _ => ?_⟩ | refine ⟨fun _ => ?_, fun h => absurd h (by decide)⟩
      obtain ⟨rfl, rfl⟩ := hr.2.2 ⟨t, ht, rfl⟩ q1
      refine ⟨_, R, P, S, sf, tg, _, _, _, at0, nu, _, [], rfl, rfl, ?_⟩
      exact hK _ ⟨R, P, S, tg, at0, nu, rfl, hrl, hhr, hsl⟩
  · rw [inIB_f q0 rfl (by decide)]
    first | refine ⟨fun h => absurd h (by decide), fun _ => ?_⟩ | refine ⟨fun _ => ?_, fun h => absurd h (by decide)⟩
    obtain ⟨rfl, rfl⟩ := hr.2.1  q0
    refine ⟨_, R, P, S, sf, tg, _, _, _, at0, nu, _, [], rfl, rfl, ?_⟩
    exact hK _ ⟨R, P, S, tg, at0, nu, rfl, hrl, hhr, hsl⟩
def sX7_flush : gS := fun av es K => ∃ c th x k ans c', av = [.ref 0, .int x] ∧ inv c ∧ mW c th es ∧ r_flush c x k ans c' ∧ ∀ es', mW c' (nI k) es' → K (some (.int (an k ans))) es'
def rmX7_flush : Room := { frames := 1, cells := 0, slots := 0, locals := 23 }
def pX7_flush (K : gK) : List (Nat × gO) := [(0, oFR 7 (oALoad 0)), (1, oConst (nI 0)), (2, oPutI 7 10), (5, oFR 7 (oILoad 1)), (6, oConst (nI 0)), (7, oConst (nI 3)), (8, oSR 7 0 0 3 [] sX7_in), (11, oFR 7 (oIf_ne 20)), (14, oALoad 0), (15, oConst (nI 1)), (16, oCallV0 0 0 7 1 sX7_fails), (19, oFR 7 (oRet K 0 0)), (20, oALoad 0), (21, oCallV0 0 0 7 0 sX7_record), (24, oFR 7 (oALoad 0)), (25, oILoad 1), (26, oCallV0 0 0 7 1 sX7_flushes), (29, oFR 7 (oRet K 0 0))]
set_option maxRecDepth 100000 in
theorem kX7_flush {X : gX} {l : Launch} (hM : gM X l cX7_flush RX7 wsX7_flush rmX7_flush) {K : gK} (hE : gR X K 0 0 (some .int)) (hnL : X.2.2.2.2.2.2.2.2.2.2.2.2.2.2.2.2 = 2) : okL X (pX7_flush K) := by
  obtain ⟨p, l1, e, R, s, m, args, below, meth, c, D, cA, A, ag, ad0, Q, nL⟩ := X
  cases hnL
  refine ⟨ok_FR (ok_aload_n hM 0 dX7_flush_0 rfl),
    ok_iconst hM dX7_flush_1 rfl,
    ok_putI (C := RX7) (T := TX7) (Nf := 11) hM (fun _ h => List.mem_cons_of_mem _ (List.mem_append_right _ h)) tyX7 tyX7_ok nmX7 rfl 10 (by decide) (List.mem_of_getElem? (i := 1) rfl) rfl rfl (by decide +kernel) dX7_flush_2,
    ok_FR (ok_iload_n hM 1 dX7_flush_5 rfl),
    ok_iconst hM dX7_flush_6 rfl,
    ok_iconst hM dX7_flush_7 rfl,
    ok_SR (ok_callS hM [] (ctX7_in l) rfl gX7_flush_X7_in rfl rfl rfl (by decide +kernel) (by decide) dX7_flush_8),
    ok_FR (ok_if_ne hM 20 dX7_flush_11 (by decide)),
    ok_aload_n hM 0 dX7_flush_14 rfl,
    ok_iconst hM dX7_flush_15 rfl,
    ok_callV0 hM (ctX7_fails l) rfl gX7_flush_X7_fails rfl rfl rfl (by decide +kernel) (by decide) dX7_flush_16,
    ok_FR (ok_ret hM hE dX7_flush_19),
    ok_aload_n hM 0 dX7_flush_20 rfl,
    ok_callV0 hM (ctX7_record l) rfl gX7_flush_X7_record rfl rfl rfl (by decide +kernel) (by decide) dX7_flush_21,
    ok_FR (ok_aload_n hM 0 dX7_flush_24 rfl),
    ok_iload_n hM 1 dX7_flush_25 rfl,
    ok_callV0 hM (ctX7_flushes l) rfl gX7_flush_X7_flushes rfl rfl rfl (by decide +kernel) (by decide) dX7_flush_26,
    ok_FR (ok_ret hM hE dX7_flush_29),
    trivial⟩
set_option maxRecDepth 100000 in
theorem ctX7_flush (l : Launch) : Ct l yX7_flush wsX7_flush rmX7_flush 0 0 false sX7_flush := by
  refine ct_of (own := RX7) (cc := cX7_flush) (maxL := 2) (ret := (some .int)) (by decide) rfl rfl (by rintro _ _ _ ⟨c, th, x, k, ans, c', rfl, hinv, hw, hr, hK⟩; exact Nat.le_of_ble_eq_true rfl) ?_
  intro X av es K hM hE hag hin hnL hsp
  obtain ⟨c, th, x, k, ans, c', rfl, hinv, hw, hr, hK⟩ := hsp
  have hf := kX7_flush hM hE hnL
  obtain ⟨v, n, ch, H, o, s, sf, z0, z1⟩ := c
  obtain ⟨R, P, S, tg, at0, nu, rfl, hrl, hhr, hsl⟩ := hw
  obtain ⟨ho, hs, hn, hch, hk, hkH, hk0, hk1⟩ := hinv
  refine wr_ok hf cut_nil 9 0 _ _ _ _ _ ?_
  refine ⟨_, _, _, rfl, rfl, ?_⟩
  by_cases q0 : inI x 4
  · obtain ⟨t, ht, rfl⟩ := q0
    rw [inIB_t ⟨t, ht, rfl⟩ rfl (by decide)]
    first | refine ⟨fun h => absurd h (by decide), fun _ => ?_⟩ | refine ⟨fun _ => ?_, fun h => absurd h (by decide)⟩
    obtain ⟨rfl, ea, rfl⟩ := hr.1 t ht rfl
    refine ⟨s, R, P, S, sf, tg, _, _, at0, nu, _, [], rfl, hs, rfl, ?_⟩
    rw [qs_ps hs]
    refine ⟨_, t, _, R, _, rfl, rfl, rl_ln hk hrl, rfl, ?_⟩
    have hK := hK _ ⟨_, _, S, tg, at0, nu, rfl, rl_rm hrl t, hr_push ho hs hhr hrl, hsl⟩
    have e9 : cnt (hol (hdR R) (nI t)) 32 = cnt (hol (vHd v) (nI t)) 32 := cnt_cong (fun p hp => rl_hol hrl hp)
    rw [ea, ← e9] at hK
    exact hK
  · rw [inIB_f q0 rfl (by decide)]
    first | refine ⟨fun h => absurd h (by decide), fun _ => ?_⟩ | refine ⟨fun _ => ?_, fun h => absurd h (by decide)⟩
    obtain ⟨rfl, rfl⟩ := hr.2  q0
    refine ⟨_, R, P, S, sf, tg, _, _, _, at0, nu, _, [], rfl, rfl, ?_⟩
    exact hK _ ⟨R, P, S, tg, at0, nu, rfl, hrl, hhr, hsl⟩
def sX7_giveWay : gS := fun av es K => ∃ c th x y k ans c', av = [.ref 0, .int x, .int y] ∧ inv c ∧ mW c th es ∧ r_giveWay c x y k ans c' ∧ ∀ es', mW c' (nI k) es' → K (some (.int (an k ans))) es'
def rmX7_giveWay : Room := { frames := 1, cells := 0, slots := 0, locals := 22 }
def pX7_giveWay (K : gK) : List (Nat × gO) := [(0, oFR 7 (oALoad 0)), (1, oConst (nI 0)), (2, oPutI 7 10), (5, oFR 7 (oILoad 1)), (6, oConst (nI 0)), (7, oConst (nI 7)), (9, oSR 7 0 0 3 [] sX7_in), (12, oFR 7 (oIf_eq 24)), (15, oILoad 2), (16, oConst (nI 0)), (17, oConst (nI 3)), (18, oSR 7 0 0 3 [] sX7_in), (21, oFR 7 (oIf_ne 30)), (24, oALoad 0), (25, oConst (nI 1)), (26, oCallV0 0 0 7 1 sX7_fails), (29, oFR 7 (oRet K 0 0)), (30, oALoad 0), (31, oCallV0 0 0 7 0 sX7_record), (34, oFR 7 (oALoad 0)), (35, oGet 7 0), (38, oConst (nI 0)), (39, oILoad 1), (40, oAdd), (41, oIALd 0), (42, oIStore 4 3), (43, oFR 7 (oALoad 0)), (44, oGet 7 0), (47, oConst (nI 0)), (48, oILoad 1), (49, oAdd), (50, oILoad 2), (51, oIASt), (52, oFR 7 (oILoad 3)), (53, oRet K 0 0)]
set_option maxRecDepth 100000 in
theorem kX7_giveWay {X : gX} {l : Launch} (hM : gM X l cX7_giveWay RX7 wsX7_giveWay rmX7_giveWay) {K : gK} (hE : gR X K 0 0 (some .int)) (hnL : X.2.2.2.2.2.2.2.2.2.2.2.2.2.2.2.2 = 4) : okL X (pX7_giveWay K) := by
  obtain ⟨p, l1, e, R, s, m, args, below, meth, c, D, cA, A, ag, ad0, Q, nL⟩ := X
  cases hnL
  refine ⟨ok_FR (ok_aload_n hM 0 dX7_giveWay_0 rfl),
    ok_iconst hM dX7_giveWay_1 rfl,
    ok_putI (C := RX7) (T := TX7) (Nf := 11) hM (fun _ h => List.mem_cons_of_mem _ (List.mem_append_right _ h)) tyX7 tyX7_ok nmX7 rfl 10 (by decide) (List.mem_of_getElem? (i := 1) rfl) rfl rfl (by decide +kernel) dX7_giveWay_2,
    ok_FR (ok_iload_n hM 1 dX7_giveWay_5 rfl),
    ok_iconst hM dX7_giveWay_6 rfl,
    ok_bipush hM dX7_giveWay_7 rfl,
    ok_SR (ok_callS hM [] (ctX7_in l) rfl gX7_giveWay_X7_in rfl rfl rfl (by decide +kernel) (by decide) dX7_giveWay_9),
    ok_FR (ok_if_eq hM 24 dX7_giveWay_12 (by decide)),
    ok_iload_n hM 2 dX7_giveWay_15 rfl,
    ok_iconst hM dX7_giveWay_16 rfl,
    ok_iconst hM dX7_giveWay_17 rfl,
    ok_SR (ok_callS hM [] (ctX7_in l) rfl gX7_giveWay_X7_in rfl rfl rfl (by decide +kernel) (by decide) dX7_giveWay_18),
    ok_FR (ok_if_ne hM 30 dX7_giveWay_21 (by decide)),
    ok_aload_n hM 0 dX7_giveWay_24 rfl,
    ok_iconst hM dX7_giveWay_25 rfl,
    ok_callV0 hM (ctX7_fails l) rfl gX7_giveWay_X7_fails rfl rfl rfl (by decide +kernel) (by decide) dX7_giveWay_26,
    ok_FR (ok_ret hM hE dX7_giveWay_29),
    ok_aload_n hM 0 dX7_giveWay_30 rfl,
    ok_callV0 hM (ctX7_record l) rfl gX7_giveWay_X7_record rfl rfl rfl (by decide +kernel) (by decide) dX7_giveWay_31,
    ok_FR (ok_aload_n hM 0 dX7_giveWay_34 rfl),
    ok_get (C := RX7) (T := TX7) (Nf := 11) hM (fun _ h => List.mem_cons_of_mem _ (List.mem_append_right _ h)) rfl 0 (by decide) (List.mem_of_getElem? (i := 2) rfl) rfl dX7_giveWay_35,
    ok_iconst hM dX7_giveWay_38 rfl,
    ok_iload_n hM 1 dX7_giveWay_39 rfl,
    ok_iadd hM dX7_giveWay_40,
    ok_iald hM dX7_giveWay_41,
    ok_istore_n hM 3 dX7_giveWay_42 rfl,
    ok_FR (ok_aload_n hM 0 dX7_giveWay_43 rfl),
    ok_get (C := RX7) (T := TX7) (Nf := 11) hM (fun _ h => List.mem_cons_of_mem _ (List.mem_append_right _ h)) rfl 0 (by decide) (List.mem_of_getElem? (i := 2) rfl) rfl dX7_giveWay_44,
    ok_iconst hM dX7_giveWay_47 rfl,
    ok_iload_n hM 1 dX7_giveWay_48 rfl,
    ok_iadd hM dX7_giveWay_49,
    ok_iload_n hM 2 dX7_giveWay_50 rfl,
    ok_iast hM dX7_giveWay_51,
    ok_FR (ok_iload_n hM 3 dX7_giveWay_52 rfl),
    ok_ret hM hE dX7_giveWay_53,
    trivial⟩
set_option maxRecDepth 100000 in
theorem ctX7_giveWay (l : Launch) : Ct l yX7_giveWay wsX7_giveWay rmX7_giveWay 0 0 false sX7_giveWay := by
  refine ct_of (own := RX7) (cc := cX7_giveWay) (maxL := 4) (ret := (some .int)) (by decide) rfl rfl (by rintro _ _ _ ⟨c, th, x, y, k, ans, c', rfl, hinv, hw, hr, hK⟩; exact Nat.le_of_ble_eq_true rfl) ?_
  intro X av es K hM hE hag hin hnL hsp
  obtain ⟨c, th, x, y, k, ans, c', rfl, hinv, hw, hr, hK⟩ := hsp
  have hf := kX7_giveWay hM hE hnL
  obtain ⟨v, n, ch, H, o, s, sf, z0, z1⟩ := c
  obtain ⟨R, P, S, tg, at0, nu, rfl, hrl, hhr, hsl⟩ := hw
  obtain ⟨ho, hs, hn, hch, hk, hkH, hk0, hk1⟩ := hinv
  refine wr_ok hf cut_nil 9 0 _ _ _ _ _ ?_
  refine ⟨_, _, _, rfl, rfl, ?_⟩
  by_cases q0 : inI x 8
  · obtain ⟨w, hw, rfl⟩ := q0
    rw [inIB_t ⟨w, hw, rfl⟩ rfl (by decide)]
    first | refine ⟨fun h => absurd h (by decide), fun _ => ?_⟩ | refine ⟨fun _ => ?_, fun h => absurd h (by decide)⟩
    refine ⟨_, _, _, rfl, rfl, ?_⟩
    by_cases q1 : inI y 4
    · obtain ⟨t, ht, rfl⟩ := q1
      rw [inIB_t ⟨t, ht, rfl⟩ rfl (by decide)]
      first | refine ⟨fun h => absurd h (by decide), fun _ => ?_⟩ | refine ⟨fun _ => ?_, fun h => absurd h (by decide)⟩
      obtain ⟨rfl, ea, rfl⟩ := hr.1 w t hw ht rfl rfl
      refine ⟨s, R, P, S, sf, tg, _, _, at0, nu, _, [], rfl, hs, rfl, ?_⟩
      rw [qs_ps hs]
      refine ⟨w, ix_0 w, by omega, ?_⟩
      refine ⟨w, ix_0 w, by omega, ?_⟩
      have hK := hK _ ⟨_, _, S, tg, at0, nu, rfl, rl_ow hrl hw, hr_push ho hs hhr hrl, hsl⟩
      have e9 : R w = vOw v w := hrl.1 w hw
      rw [ea, ← e9] at hK
      exact hK
    · rw [inIB_f q1 rfl (by decide)]
      first | refine ⟨fun h => absurd h (by decide), fun _ => ?_⟩ | refine ⟨fun _ => ?_, fun h => absurd h (by decide)⟩
      obtain ⟨rfl, rfl⟩ := hr.2.2 ⟨w, hw, rfl⟩ q1
      refine ⟨_, R, P, S, sf, tg, _, _, _, at0, nu, _, [], rfl, rfl, ?_⟩
      exact hK _ ⟨R, P, S, tg, at0, nu, rfl, hrl, hhr, hsl⟩
  · rw [inIB_f q0 rfl (by decide)]
    first | refine ⟨fun h => absurd h (by decide), fun _ => ?_⟩ | refine ⟨fun _ => ?_, fun h => absurd h (by decide)⟩
    obtain ⟨rfl, rfl⟩ := hr.2.1  q0
    refine ⟨_, R, P, S, sf, tg, _, _, _, at0, nu, _, [], rfl, rfl, ?_⟩
    exact hK _ ⟨R, P, S, tg, at0, nu, rfl, hrl, hhr, hsl⟩
def sX7_setLeast : gS := fun av es K => ∃ c th x y k ans c', av = [.ref 0, .int x, .int y] ∧ inv c ∧ mW c th es ∧ r_setLeast c x y k ans c' ∧ ∀ es', mW c' (nI k) es' → K (some (.int (an k ans))) es'
def rmX7_setLeast : Room := { frames := 1, cells := 0, slots := 0, locals := 22 }
def pX7_setLeast (K : gK) : List (Nat × gO) := [(0, oFR 7 (oALoad 0)), (1, oConst (nI 0)), (2, oPutI 7 10), (5, oFR 7 (oILoad 1)), (6, oConst (nI 0)), (7, oConst (nI 3)), (8, oSR 7 0 0 3 [] sX7_in), (11, oFR 7 (oIf_ne 20)), (14, oALoad 0), (15, oConst (nI 1)), (16, oCallV0 0 0 7 1 sX7_fails), (19, oFR 7 (oRet K 0 0)), (20, oILoad 2), (21, oConst (nI 0)), (22, oConst (nI 2)), (23, oSR 7 0 0 3 [] sX7_in), (26, oFR 7 (oIf_ne 35)), (29, oALoad 0), (30, oConst (nI 2)), (31, oCallV0 0 0 7 1 sX7_fails), (34, oFR 7 (oRet K 0 0)), (35, oALoad 0), (36, oCallV0 0 0 7 0 sX7_record), (39, oFR 7 (oALoad 0)), (40, oGet 7 0), (43, oConst (nI 184)), (46, oILoad 1), (47, oAdd), (48, oIALd 0), (49, oIStore 4 3), (50, oFR 7 (oALoad 0)), (51, oGet 7 0), (54, oConst (nI 184)), (57, oILoad 1), (58, oAdd), (59, oILoad 2), (60, oIASt), (61, oFR 7 (oILoad 3)), (62, oRet K 0 0)]
set_option maxRecDepth 100000 in
theorem kX7_setLeast {X : gX} {l : Launch} (hM : gM X l cX7_setLeast RX7 wsX7_setLeast rmX7_setLeast) {K : gK} (hE : gR X K 0 0 (some .int)) (hnL : X.2.2.2.2.2.2.2.2.2.2.2.2.2.2.2.2 = 4) : okL X (pX7_setLeast K) := by
  obtain ⟨p, l1, e, R, s, m, args, below, meth, c, D, cA, A, ag, ad0, Q, nL⟩ := X
  cases hnL
  refine ⟨ok_FR (ok_aload_n hM 0 dX7_setLeast_0 rfl),
    ok_iconst hM dX7_setLeast_1 rfl,
    ok_putI (C := RX7) (T := TX7) (Nf := 11) hM (fun _ h => List.mem_cons_of_mem _ (List.mem_append_right _ h)) tyX7 tyX7_ok nmX7 rfl 10 (by decide) (List.mem_of_getElem? (i := 1) rfl) rfl rfl (by decide +kernel) dX7_setLeast_2,
    ok_FR (ok_iload_n hM 1 dX7_setLeast_5 rfl),
    ok_iconst hM dX7_setLeast_6 rfl,
    ok_iconst hM dX7_setLeast_7 rfl,
    ok_SR (ok_callS hM [] (ctX7_in l) rfl gX7_setLeast_X7_in rfl rfl rfl (by decide +kernel) (by decide) dX7_setLeast_8),
    ok_FR (ok_if_ne hM 20 dX7_setLeast_11 (by decide)),
    ok_aload_n hM 0 dX7_setLeast_14 rfl,
    ok_iconst hM dX7_setLeast_15 rfl,
    ok_callV0 hM (ctX7_fails l) rfl gX7_setLeast_X7_fails rfl rfl rfl (by decide +kernel) (by decide) dX7_setLeast_16,
    ok_FR (ok_ret hM hE dX7_setLeast_19),
    ok_iload_n hM 2 dX7_setLeast_20 rfl,
    ok_iconst hM dX7_setLeast_21 rfl,
    ok_iconst hM dX7_setLeast_22 rfl,
    ok_SR (ok_callS hM [] (ctX7_in l) rfl gX7_setLeast_X7_in rfl rfl rfl (by decide +kernel) (by decide) dX7_setLeast_23),
    ok_FR (ok_if_ne hM 35 dX7_setLeast_26 (by decide)),
    ok_aload_n hM 0 dX7_setLeast_29 rfl,
    ok_iconst hM dX7_setLeast_30 rfl,
    ok_callV0 hM (ctX7_fails l) rfl gX7_setLeast_X7_fails rfl rfl rfl (by decide +kernel) (by decide) dX7_setLeast_31,
    ok_FR (ok_ret hM hE dX7_setLeast_34),
    ok_aload_n hM 0 dX7_setLeast_35 rfl,
    ok_callV0 hM (ctX7_record l) rfl gX7_setLeast_X7_record rfl rfl rfl (by decide +kernel) (by decide) dX7_setLeast_36,
    ok_FR (ok_aload_n hM 0 dX7_setLeast_39 rfl),
    ok_get (C := RX7) (T := TX7) (Nf := 11) hM (fun _ h => List.mem_cons_of_mem _ (List.mem_append_right _ h)) rfl 0 (by decide) (List.mem_of_getElem? (i := 2) rfl) rfl dX7_setLeast_40,
    ok_sipush hM dX7_setLeast_43 rfl,
    ok_iload_n hM 1 dX7_setLeast_46 rfl,
    ok_iadd hM dX7_setLeast_47,
    ok_iald hM dX7_setLeast_48,
    ok_istore_n hM 3 dX7_setLeast_49 rfl,
    ok_FR (ok_aload_n hM 0 dX7_setLeast_50 rfl),
    ok_get (C := RX7) (T := TX7) (Nf := 11) hM (fun _ h => List.mem_cons_of_mem _ (List.mem_append_right _ h)) rfl 0 (by decide) (List.mem_of_getElem? (i := 2) rfl) rfl dX7_setLeast_51,
    ok_sipush hM dX7_setLeast_54 rfl,
    ok_iload_n hM 1 dX7_setLeast_57 rfl,
    ok_iadd hM dX7_setLeast_58,
    ok_iload_n hM 2 dX7_setLeast_59 rfl,
    ok_iast hM dX7_setLeast_60,
    ok_FR (ok_iload_n hM 3 dX7_setLeast_61 rfl),
    ok_ret hM hE dX7_setLeast_62,
    trivial⟩
set_option maxRecDepth 100000 in
theorem ctX7_setLeast (l : Launch) : Ct l yX7_setLeast wsX7_setLeast rmX7_setLeast 0 0 false sX7_setLeast := by
  refine ct_of (own := RX7) (cc := cX7_setLeast) (maxL := 4) (ret := (some .int)) (by decide) rfl rfl (by rintro _ _ _ ⟨c, th, x, y, k, ans, c', rfl, hinv, hw, hr, hK⟩; exact Nat.le_of_ble_eq_true rfl) ?_
  intro X av es K hM hE hag hin hnL hsp
  obtain ⟨c, th, x, y, k, ans, c', rfl, hinv, hw, hr, hK⟩ := hsp
  have hf := kX7_setLeast hM hE hnL
  obtain ⟨v, n, ch, H, o, s, sf, z0, z1⟩ := c
  obtain ⟨R, P, S, tg, at0, nu, rfl, hrl, hhr, hsl⟩ := hw
  obtain ⟨ho, hs, hn, hch, hk, hkH, hk0, hk1⟩ := hinv
  refine wr_ok hf cut_nil 9 0 _ _ _ _ _ ?_
  refine ⟨_, _, _, rfl, rfl, ?_⟩
  by_cases q0 : inI x 4
  · obtain ⟨t, ht, rfl⟩ := q0
    rw [inIB_t ⟨t, ht, rfl⟩ rfl (by decide)]
    first | refine ⟨fun h => absurd h (by decide), fun _ => ?_⟩ | refine ⟨fun _ => ?_, fun h => absurd h (by decide)⟩
    refine ⟨_, _, _, rfl, rfl, ?_⟩
    by_cases q1 : inA y 0 2
    · obtain ⟨l, hl0, hl, rfl⟩ := q1
      rw [inB_t ⟨l, hl0, hl, rfl⟩ (by decide)]
      first | refine ⟨fun h => absurd h (by decide), fun _ => ?_⟩ | refine ⟨fun _ => ?_, fun h => absurd h (by decide)⟩
      obtain ⟨rfl, ea, rfl⟩ := hr.1 t l ht hl rfl rfl
      refine ⟨s, R, P, S, sf, tg, _, _, at0, nu, _, [], rfl, hs, rfl, ?_⟩
      rw [qs_ps hs]
      refine ⟨184 + t, nI_add _ _, by omega, ?_⟩
      refine ⟨184 + t, nI_add _ _, by omega, ?_⟩
      have hK := hK _ ⟨_, _, S, tg, at0, nu, rfl, rl_le hrl ht, hr_push ho hs hhr hrl, hsl⟩
      have e9 : R (184 + t) = vLe v t := hrl.2.2.2.2.2.1 t ht
      rw [ea, ← e9] at hK
      exact hK
    · rw [inB_f q1 (by decide) (by decide)]
      first | refine ⟨fun h => absurd h (by decide), fun _ => ?_⟩ | refine ⟨fun _ => ?_, fun h => absurd h (by decide)⟩
      obtain ⟨rfl, rfl⟩ := hr.2.2 ⟨t, ht, rfl⟩ q1
      refine ⟨_, R, P, S, sf, tg, _, _, _, at0, nu, _, [], rfl, rfl, ?_⟩
      exact hK _ ⟨R, P, S, tg, at0, nu, rfl, hrl, hhr, hsl⟩
  · rw [inIB_f q0 rfl (by decide)]
    first | refine ⟨fun h => absurd h (by decide), fun _ => ?_⟩ | refine ⟨fun _ => ?_, fun h => absurd h (by decide)⟩
    obtain ⟨rfl, rfl⟩ := hr.2.1  q0
    refine ⟨_, R, P, S, sf, tg, _, _, _, at0, nu, _, [], rfl, rfl, ?_⟩
    exact hK _ ⟨R, P, S, tg, at0, nu, rfl, hrl, hhr, hsl⟩
def sX7_setEpoch : gS := fun av es K => ∃ c th x k ans c', av = [.ref 0, .int x] ∧ inv c ∧ mW c th es ∧ r_setEpoch c x k ans c' ∧ ∀ es', mW c' (nI k) es' → K (some (.int (an k ans))) es'
def rmX7_setEpoch : Room := { frames := 1, cells := 0, slots := 0, locals := 22 }
def pX7_setEpoch (K : gK) : List (Nat × gO) := [(0, oFR 7 (oALoad 0)), (1, oConst (nI 0)), (2, oPutI 7 10), (5, oFR 7 (oILoad 1)), (6, oConst (nI 0)), (7, oConst (nI 200)), (10, oSR 7 0 0 3 [] sX7_in), (13, oFR 7 (oIf_ne 22)), (16, oALoad 0), (17, oConst (nI 1)), (18, oCallV0 0 0 7 1 sX7_fails), (21, oFR 7 (oRet K 0 0)), (22, oALoad 0), (23, oCallV0 0 0 7 0 sX7_record), (26, oFR 7 (oALoad 0)), (27, oGet 7 0), (30, oConst (nI 188)), (33, oIALd 0), (34, oIStore 3 2), (35, oFR 7 (oALoad 0)), (36, oGet 7 0), (39, oConst (nI 188)), (42, oILoad 1), (43, oIASt), (44, oFR 7 (oILoad 2)), (45, oRet K 0 0)]
set_option maxRecDepth 100000 in
theorem kX7_setEpoch {X : gX} {l : Launch} (hM : gM X l cX7_setEpoch RX7 wsX7_setEpoch rmX7_setEpoch) {K : gK} (hE : gR X K 0 0 (some .int)) (hnL : X.2.2.2.2.2.2.2.2.2.2.2.2.2.2.2.2 = 3) : okL X (pX7_setEpoch K) := by
  obtain ⟨p, l1, e, R, s, m, args, below, meth, c, D, cA, A, ag, ad0, Q, nL⟩ := X
  cases hnL
  refine ⟨ok_FR (ok_aload_n hM 0 dX7_setEpoch_0 rfl),
    ok_iconst hM dX7_setEpoch_1 rfl,
    ok_putI (C := RX7) (T := TX7) (Nf := 11) hM (fun _ h => List.mem_cons_of_mem _ (List.mem_append_right _ h)) tyX7 tyX7_ok nmX7 rfl 10 (by decide) (List.mem_of_getElem? (i := 1) rfl) rfl rfl (by decide +kernel) dX7_setEpoch_2,
    ok_FR (ok_iload_n hM 1 dX7_setEpoch_5 rfl),
    ok_iconst hM dX7_setEpoch_6 rfl,
    ok_sipush hM dX7_setEpoch_7 rfl,
    ok_SR (ok_callS hM [] (ctX7_in l) rfl gX7_setEpoch_X7_in rfl rfl rfl (by decide +kernel) (by decide) dX7_setEpoch_10),
    ok_FR (ok_if_ne hM 22 dX7_setEpoch_13 (by decide)),
    ok_aload_n hM 0 dX7_setEpoch_16 rfl,
    ok_iconst hM dX7_setEpoch_17 rfl,
    ok_callV0 hM (ctX7_fails l) rfl gX7_setEpoch_X7_fails rfl rfl rfl (by decide +kernel) (by decide) dX7_setEpoch_18,
    ok_FR (ok_ret hM hE dX7_setEpoch_21),
    ok_aload_n hM 0 dX7_setEpoch_22 rfl,
    ok_callV0 hM (ctX7_record l) rfl gX7_setEpoch_X7_record rfl rfl rfl (by decide +kernel) (by decide) dX7_setEpoch_23,
    ok_FR (ok_aload_n hM 0 dX7_setEpoch_26 rfl),
    ok_get (C := RX7) (T := TX7) (Nf := 11) hM (fun _ h => List.mem_cons_of_mem _ (List.mem_append_right _ h)) rfl 0 (by decide) (List.mem_of_getElem? (i := 2) rfl) rfl dX7_setEpoch_27,
    ok_sipush hM dX7_setEpoch_30 rfl,
    ok_iald hM dX7_setEpoch_33,
    ok_istore_n hM 2 dX7_setEpoch_34 rfl,
    ok_FR (ok_aload_n hM 0 dX7_setEpoch_35 rfl),
    ok_get (C := RX7) (T := TX7) (Nf := 11) hM (fun _ h => List.mem_cons_of_mem _ (List.mem_append_right _ h)) rfl 0 (by decide) (List.mem_of_getElem? (i := 2) rfl) rfl dX7_setEpoch_36,
    ok_sipush hM dX7_setEpoch_39 rfl,
    ok_iload_n hM 1 dX7_setEpoch_42 rfl,
    ok_iast hM dX7_setEpoch_43,
    ok_FR (ok_iload_n hM 2 dX7_setEpoch_44 rfl),
    ok_ret hM hE dX7_setEpoch_45,
    trivial⟩
set_option maxRecDepth 100000 in
theorem ctX7_setEpoch (l : Launch) : Ct l yX7_setEpoch wsX7_setEpoch rmX7_setEpoch 0 0 false sX7_setEpoch := by
  refine ct_of (own := RX7) (cc := cX7_setEpoch) (maxL := 3) (ret := (some .int)) (by decide) rfl rfl (by rintro _ _ _ ⟨c, th, x, k, ans, c', rfl, hinv, hw, hr, hK⟩; exact Nat.le_of_ble_eq_true rfl) ?_
  intro X av es K hM hE hag hin hnL hsp
  obtain ⟨c, th, x, k, ans, c', rfl, hinv, hw, hr, hK⟩ := hsp
  have hf := kX7_setEpoch hM hE hnL
  obtain ⟨v, n, ch, H, o, s, sf, z0, z1⟩ := c
  obtain ⟨R, P, S, tg, at0, nu, rfl, hrl, hhr, hsl⟩ := hw
  obtain ⟨ho, hs, hn, hch, hk, hkH, hk0, hk1⟩ := hinv
  refine wr_ok hf cut_nil 9 0 _ _ _ _ _ ?_
  refine ⟨_, _, _, rfl, rfl, ?_⟩
  by_cases q0 : inA x 0 200
  · obtain ⟨e, he0, he, rfl⟩ := q0
    rw [inB_t ⟨e, he0, he, rfl⟩ (by decide)]
    first | refine ⟨fun h => absurd h (by decide), fun _ => ?_⟩ | refine ⟨fun _ => ?_, fun h => absurd h (by decide)⟩
    obtain ⟨rfl, ea, rfl⟩ := hr.1 e he rfl
    refine ⟨s, R, P, S, sf, tg, _, _, at0, nu, _, [], rfl, hs, rfl, ?_⟩
    rw [qs_ps hs]
    refine ⟨188, rfl, by decide, ?_⟩
    refine ⟨188, rfl, by decide, ?_⟩
    have hK := hK _ ⟨_, _, S, tg, at0, nu, rfl, rl_ep hrl (nI e), hr_push ho hs hhr hrl, hsl⟩
    have e9 : R 188 = vEp v := hrl.2.2.2.2.2.2.1
    rw [ea, ← e9] at hK
    exact hK
  · rw [inB_f q0 (by decide) (by decide)]
    first | refine ⟨fun h => absurd h (by decide), fun _ => ?_⟩ | refine ⟨fun _ => ?_, fun h => absurd h (by decide)⟩
    obtain ⟨rfl, rfl⟩ := hr.2  q0
    refine ⟨_, R, P, S, sf, tg, _, _, _, at0, nu, _, [], rfl, rfl, ?_⟩
    exact hK _ ⟨R, P, S, tg, at0, nu, rfl, hrl, hhr, hsl⟩
def sX7_owner : gS := fun av es K => ∃ c th x k ans c', av = [.ref 0, .int x] ∧ inv c ∧ mW c th es ∧ r_owner c x k ans c' ∧ ∀ es', mW c' (nI k) es' → K (some (.int (an k ans))) es'
def rmX7_owner : Room := { frames := 1, cells := 0, slots := 0, locals := 22 }
def pX7_owner (K : gK) : List (Nat × gO) := [(0, oFR 7 (oALoad 0)), (1, oConst (nI 0)), (2, oPutI 7 10), (5, oFR 7 (oILoad 1)), (6, oConst (nI 0)), (7, oConst (nI 7)), (9, oSR 7 0 0 3 [] sX7_in), (12, oFR 7 (oIf_eq 26)), (15, oALoad 0), (16, oGet 7 0), (19, oConst (nI 0)), (20, oILoad 1), (21, oAdd), (22, oIALd 0), (23, oGoto 31), (26, oALoad 0), (27, oConst (nI 1)), (28, oCallV0 0 0 7 1 sX7_fails), (31, oFR 7 (oRet K 0 0))]
set_option maxRecDepth 100000 in
theorem kX7_owner {X : gX} {l : Launch} (hM : gM X l cX7_owner RX7 wsX7_owner rmX7_owner) {K : gK} (hE : gR X K 0 0 (some .int)) (hnL : X.2.2.2.2.2.2.2.2.2.2.2.2.2.2.2.2 = 2) : okL X (pX7_owner K) := by
  obtain ⟨p, l1, e, R, s, m, args, below, meth, c, D, cA, A, ag, ad0, Q, nL⟩ := X
  cases hnL
  refine ⟨ok_FR (ok_aload_n hM 0 dX7_owner_0 rfl),
    ok_iconst hM dX7_owner_1 rfl,
    ok_putI (C := RX7) (T := TX7) (Nf := 11) hM (fun _ h => List.mem_cons_of_mem _ (List.mem_append_right _ h)) tyX7 tyX7_ok nmX7 rfl 10 (by decide) (List.mem_of_getElem? (i := 1) rfl) rfl rfl (by decide +kernel) dX7_owner_2,
    ok_FR (ok_iload_n hM 1 dX7_owner_5 rfl),
    ok_iconst hM dX7_owner_6 rfl,
    ok_bipush hM dX7_owner_7 rfl,
    ok_SR (ok_callS hM [] (ctX7_in l) rfl gX7_owner_X7_in rfl rfl rfl (by decide +kernel) (by decide) dX7_owner_9),
    ok_FR (ok_if_eq hM 26 dX7_owner_12 (by decide)),
    ok_aload_n hM 0 dX7_owner_15 rfl,
    ok_get (C := RX7) (T := TX7) (Nf := 11) hM (fun _ h => List.mem_cons_of_mem _ (List.mem_append_right _ h)) rfl 0 (by decide) (List.mem_of_getElem? (i := 2) rfl) rfl dX7_owner_16,
    ok_iconst hM dX7_owner_19 rfl,
    ok_iload_n hM 1 dX7_owner_20 rfl,
    ok_iadd hM dX7_owner_21,
    ok_iald hM dX7_owner_22,
    ok_goto hM 31 dX7_owner_23 (by decide),
    ok_aload_n hM 0 dX7_owner_26 rfl,
    ok_iconst hM dX7_owner_27 rfl,
    ok_callV0 hM (ctX7_fails l) rfl gX7_owner_X7_fails rfl rfl rfl (by decide +kernel) (by decide) dX7_owner_28,
    ok_FR (ok_ret hM hE dX7_owner_31),
    trivial⟩
set_option maxRecDepth 100000 in
theorem ctX7_owner (l : Launch) : Ct l yX7_owner wsX7_owner rmX7_owner 0 0 false sX7_owner := by
  refine ct_of (own := RX7) (cc := cX7_owner) (maxL := 2) (ret := (some .int)) (by decide) rfl rfl (by rintro _ _ _ ⟨c, th, x, k, ans, c', rfl, hinv, hw, hr, hK⟩; exact Nat.le_of_ble_eq_true rfl) ?_
  intro X av es K hM hE hag hin hnL hsp
  obtain ⟨c, th, x, k, ans, c', rfl, hinv, hw, hr, hK⟩ := hsp
  have hf := kX7_owner hM hE hnL
  obtain ⟨v, n, ch, H, o, s, sf, z0, z1⟩ := c
  obtain ⟨R, P, S, tg, at0, nu, rfl, hrl, hhr, hsl⟩ := hw
  obtain ⟨ho, hs, hn, hch, hk, hkH, hk0, hk1⟩ := hinv
  refine wr_ok hf cut_nil 9 0 _ _ _ _ _ ?_
  refine ⟨_, _, _, rfl, rfl, ?_⟩
  by_cases q0 : inI x 8
  · obtain ⟨w, hw, rfl⟩ := q0
    rw [inIB_t ⟨w, hw, rfl⟩ rfl (by decide)]
    first | refine ⟨fun h => absurd h (by decide), fun _ => ?_⟩ | refine ⟨fun _ => ?_, fun h => absurd h (by decide)⟩
    obtain ⟨rfl, ea, rfl⟩ := hr.1 w hw rfl
    refine ⟨w, ix_0 w, by omega, ?_⟩
    have hK := hK _ ⟨R, P, S, tg, at0, nu, rfl, hrl, hhr, hsl⟩
    have e9 : R w = vOw v w := hrl.1 w hw
    rw [ea, ← e9] at hK
    exact hK
  · rw [inIB_f q0 rfl (by decide)]
    first | refine ⟨fun h => absurd h (by decide), fun _ => ?_⟩ | refine ⟨fun _ => ?_, fun h => absurd h (by decide)⟩
    obtain ⟨rfl, rfl⟩ := hr.2  q0
    refine ⟨_, R, P, S, sf, tg, _, _, _, at0, nu, _, [], rfl, rfl, ?_⟩
    exact hK _ ⟨R, P, S, tg, at0, nu, rfl, hrl, hhr, hsl⟩
def sX7_waysOf : gS := fun av es K => ∃ c th x k ans c', av = [.ref 0, .int x] ∧ inv c ∧ mW c th es ∧ r_waysOf c x k ans c' ∧ ∀ es', mW c' (nI k) es' → K (some (.int (an k ans))) es'
def rmX7_waysOf : Room := { frames := 1, cells := 0, slots := 0, locals := 23 }
def pX7_waysOf (K : gK) : List (Nat × gO) := [(0, oFR 7 (oALoad 0)), (1, oConst (nI 0)), (2, oPutI 7 10), (5, oFR 7 (oILoad 1)), (6, oConst (nI 0)), (7, oConst (nI 3)), (8, oSR 7 0 0 3 [] sX7_in), (11, oFR 7 (oIf_eq 22)), (14, oALoad 0), (15, oILoad 1), (16, oCallV0 0 0 7 1 sX7_owned), (19, oGoto 27), (22, oFR 7 (oALoad 0)), (23, oConst (nI 1)), (24, oCallV0 0 0 7 1 sX7_fails), (27, oFR 7 (oRet K 0 0))]
set_option maxRecDepth 100000 in
theorem kX7_waysOf {X : gX} {l : Launch} (hM : gM X l cX7_waysOf RX7 wsX7_waysOf rmX7_waysOf) {K : gK} (hE : gR X K 0 0 (some .int)) (hnL : X.2.2.2.2.2.2.2.2.2.2.2.2.2.2.2.2 = 2) : okL X (pX7_waysOf K) := by
  obtain ⟨p, l1, e, R, s, m, args, below, meth, c, D, cA, A, ag, ad0, Q, nL⟩ := X
  cases hnL
  refine ⟨ok_FR (ok_aload_n hM 0 dX7_waysOf_0 rfl),
    ok_iconst hM dX7_waysOf_1 rfl,
    ok_putI (C := RX7) (T := TX7) (Nf := 11) hM (fun _ h => List.mem_cons_of_mem _ (List.mem_append_right _ h)) tyX7 tyX7_ok nmX7 rfl 10 (by decide) (List.mem_of_getElem? (i := 1) rfl) rfl rfl (by decide +kernel) dX7_waysOf_2,
    ok_FR (ok_iload_n hM 1 dX7_waysOf_5 rfl),
    ok_iconst hM dX7_waysOf_6 rfl,
    ok_iconst hM dX7_waysOf_7 rfl,
    ok_SR (ok_callS hM [] (ctX7_in l) rfl gX7_waysOf_X7_in rfl rfl rfl (by decide +kernel) (by decide) dX7_waysOf_8),
    ok_FR (ok_if_eq hM 22 dX7_waysOf_11 (by decide)),
    ok_aload_n hM 0 dX7_waysOf_14 rfl,
    ok_iload_n hM 1 dX7_waysOf_15 rfl,
    ok_callV0 hM (ctX7_owned l) rfl gX7_waysOf_X7_owned rfl rfl rfl (by decide +kernel) (by decide) dX7_waysOf_16,
    ok_goto hM 27 dX7_waysOf_19 (by decide),
    ok_FR (ok_aload_n hM 0 dX7_waysOf_22 rfl),
    ok_iconst hM dX7_waysOf_23 rfl,
    ok_callV0 hM (ctX7_fails l) rfl gX7_waysOf_X7_fails rfl rfl rfl (by decide +kernel) (by decide) dX7_waysOf_24,
    ok_FR (ok_ret hM hE dX7_waysOf_27),
    trivial⟩
set_option maxRecDepth 100000 in
theorem ctX7_waysOf (l : Launch) : Ct l yX7_waysOf wsX7_waysOf rmX7_waysOf 0 0 false sX7_waysOf := by
  refine ct_of (own := RX7) (cc := cX7_waysOf) (maxL := 2) (ret := (some .int)) (by decide) rfl rfl (by rintro _ _ _ ⟨c, th, x, k, ans, c', rfl, hinv, hw, hr, hK⟩; exact Nat.le_of_ble_eq_true rfl) ?_
  intro X av es K hM hE hag hin hnL hsp
  obtain ⟨c, th, x, k, ans, c', rfl, hinv, hw, hr, hK⟩ := hsp
  have hf := kX7_waysOf hM hE hnL
  obtain ⟨v, n, ch, H, o, s, sf, z0, z1⟩ := c
  obtain ⟨R, P, S, tg, at0, nu, rfl, hrl, hhr, hsl⟩ := hw
  obtain ⟨ho, hs, hn, hch, hk, hkH, hk0, hk1⟩ := hinv
  refine wr_ok hf cut_nil 9 0 _ _ _ _ _ ?_
  refine ⟨_, _, _, rfl, rfl, ?_⟩
  by_cases q0 : inI x 4
  · obtain ⟨t, ht, rfl⟩ := q0
    rw [inIB_t ⟨t, ht, rfl⟩ rfl (by decide)]
    first | refine ⟨fun h => absurd h (by decide), fun _ => ?_⟩ | refine ⟨fun _ => ?_, fun h => absurd h (by decide)⟩
    obtain ⟨rfl, ea, rfl⟩ := hr.1 t ht rfl
    refine ⟨_, _, R, _, rfl, rfl, ?_⟩
    have hK := hK _ ⟨R, P, S, tg, at0, nu, rfl, hrl, hhr, hsl⟩
    have e9 : fOwn R (nI t) = fOwn (vOw v) (nI t) := rl_own hrl (nI t)
    rw [ea, ← e9] at hK
    exact hK
  · rw [inIB_f q0 rfl (by decide)]
    first | refine ⟨fun h => absurd h (by decide), fun _ => ?_⟩ | refine ⟨fun _ => ?_, fun h => absurd h (by decide)⟩
    obtain ⟨rfl, rfl⟩ := hr.2  q0
    refine ⟨_, R, P, S, sf, tg, _, _, _, at0, nu, _, [], rfl, rfl, ?_⟩
    exact hK _ ⟨R, P, S, tg, at0, nu, rfl, hrl, hhr, hsl⟩
def sX7_line : gS := fun av es K => ∃ c th x y k ans c', av = [.ref 0, .int x, .int y] ∧ inv c ∧ mW c th es ∧ r_line c x y k ans c' ∧ ∀ es', mW c' (nI k) es' → K (some (.int (an k ans))) es'
def rmX7_line : Room := { frames := 1, cells := 0, slots := 0, locals := 22 }
def pX7_line (K : gK) : List (Nat × gO) := [(0, oFR 7 (oALoad 0)), (1, oConst (nI 0)), (2, oPutI 7 10), (5, oFR 7 (oILoad 1)), (6, oConst (nI 0)), (7, oConst (nI 3)), (8, oSR 7 0 0 3 [] sX7_in), (11, oFR 7 (oIf_eq 41)), (14, oILoad 2), (15, oConst (nI 0)), (16, oConst (nI 7)), (18, oSR 7 0 0 3 [] sX7_in), (21, oFR 7 (oIf_eq 41)), (24, oALoad 0), (25, oGet 7 0), (28, oConst (nI 8)), (30, oConst (nI 8)), (32, oILoad 1), (33, oMul), (34, oAdd), (35, oILoad 2), (36, oAdd), (37, oIALd 0), (38, oGoto 46), (41, oALoad 0), (42, oConst (nI 1)), (43, oCallV0 0 0 7 1 sX7_fails), (46, oFR 7 (oRet K 0 0))]
set_option maxRecDepth 100000 in
theorem kX7_line {X : gX} {l : Launch} (hM : gM X l cX7_line RX7 wsX7_line rmX7_line) {K : gK} (hE : gR X K 0 0 (some .int)) (hnL : X.2.2.2.2.2.2.2.2.2.2.2.2.2.2.2.2 = 3) : okL X (pX7_line K) := by
  obtain ⟨p, l1, e, R, s, m, args, below, meth, c, D, cA, A, ag, ad0, Q, nL⟩ := X
  cases hnL
  refine ⟨ok_FR (ok_aload_n hM 0 dX7_line_0 rfl),
    ok_iconst hM dX7_line_1 rfl,
    ok_putI (C := RX7) (T := TX7) (Nf := 11) hM (fun _ h => List.mem_cons_of_mem _ (List.mem_append_right _ h)) tyX7 tyX7_ok nmX7 rfl 10 (by decide) (List.mem_of_getElem? (i := 1) rfl) rfl rfl (by decide +kernel) dX7_line_2,
    ok_FR (ok_iload_n hM 1 dX7_line_5 rfl),
    ok_iconst hM dX7_line_6 rfl,
    ok_iconst hM dX7_line_7 rfl,
    ok_SR (ok_callS hM [] (ctX7_in l) rfl gX7_line_X7_in rfl rfl rfl (by decide +kernel) (by decide) dX7_line_8),
    ok_FR (ok_if_eq hM 41 dX7_line_11 (by decide)),
    ok_iload_n hM 2 dX7_line_14 rfl,
    ok_iconst hM dX7_line_15 rfl,
    ok_bipush hM dX7_line_16 rfl,
    ok_SR (ok_callS hM [] (ctX7_in l) rfl gX7_line_X7_in rfl rfl rfl (by decide +kernel) (by decide) dX7_line_18),
    ok_FR (ok_if_eq hM 41 dX7_line_21 (by decide)),
    ok_aload_n hM 0 dX7_line_24 rfl,
    ok_get (C := RX7) (T := TX7) (Nf := 11) hM (fun _ h => List.mem_cons_of_mem _ (List.mem_append_right _ h)) rfl 0 (by decide) (List.mem_of_getElem? (i := 2) rfl) rfl dX7_line_25,
    ok_bipush hM dX7_line_28 rfl,
    ok_bipush hM dX7_line_30 rfl,
    ok_iload_n hM 1 dX7_line_32 rfl,
    ok_imul hM dX7_line_33,
    ok_iadd hM dX7_line_34,
    ok_iload_n hM 2 dX7_line_35 rfl,
    ok_iadd hM dX7_line_36,
    ok_iald hM dX7_line_37,
    ok_goto hM 46 dX7_line_38 (by decide),
    ok_aload_n hM 0 dX7_line_41 rfl,
    ok_iconst hM dX7_line_42 rfl,
    ok_callV0 hM (ctX7_fails l) rfl gX7_line_X7_fails rfl rfl rfl (by decide +kernel) (by decide) dX7_line_43,
    ok_FR (ok_ret hM hE dX7_line_46),
    trivial⟩
set_option maxRecDepth 100000 in
theorem ctX7_line (l : Launch) : Ct l yX7_line wsX7_line rmX7_line 0 0 false sX7_line := by
  refine ct_of (own := RX7) (cc := cX7_line) (maxL := 3) (ret := (some .int)) (by decide) rfl rfl (by rintro _ _ _ ⟨c, th, x, y, k, ans, c', rfl, hinv, hw, hr, hK⟩; exact Nat.le_of_ble_eq_true rfl) ?_
  intro X av es K hM hE hag hin hnL hsp
  obtain ⟨c, th, x, y, k, ans, c', rfl, hinv, hw, hr, hK⟩ := hsp
  have hf := kX7_line hM hE hnL
  obtain ⟨v, n, ch, H, o, s, sf, z0, z1⟩ := c
  obtain ⟨R, P, S, tg, at0, nu, rfl, hrl, hhr, hsl⟩ := hw
  obtain ⟨ho, hs, hn, hch, hk, hkH, hk0, hk1⟩ := hinv
  refine wr_ok hf cut_nil 9 0 _ _ _ _ _ ?_
  refine ⟨_, _, _, rfl, rfl, ?_⟩
  by_cases q0 : inI x 4
  · obtain ⟨t, ht, rfl⟩ := q0
    rw [inIB_t ⟨t, ht, rfl⟩ rfl (by decide)]
    first | refine ⟨fun h => absurd h (by decide), fun _ => ?_⟩ | refine ⟨fun _ => ?_, fun h => absurd h (by decide)⟩
    refine ⟨_, _, _, rfl, rfl, ?_⟩
    by_cases q1 : inI y 8
    · obtain ⟨w, hw, rfl⟩ := q1
      rw [inIB_t ⟨w, hw, rfl⟩ rfl (by decide)]
      first | refine ⟨fun h => absurd h (by decide), fun _ => ?_⟩ | refine ⟨fun _ => ?_, fun h => absurd h (by decide)⟩
      obtain ⟨rfl, ea, rfl⟩ := hr.1 t w ht hw rfl rfl
      refine ⟨8 + (t * 8 + w), ix_8 8 t w, by omega, ?_⟩
      have hK := hK _ ⟨R, P, S, tg, at0, nu, rfl, hrl, hhr, hsl⟩
      have e9 : R (8 + (t * 8 + w)) = vHd v (t * 8 + w) := hrl.2.1 _ (by omega)
      rw [ea, ← e9] at hK
      exact hK
    · rw [inIB_f q1 rfl (by decide)]
      first | refine ⟨fun h => absurd h (by decide), fun _ => ?_⟩ | refine ⟨fun _ => ?_, fun h => absurd h (by decide)⟩
      obtain ⟨rfl, rfl⟩ := hr.2.2 ⟨t, ht, rfl⟩ q1
      refine ⟨_, R, P, S, sf, tg, _, _, _, at0, nu, _, [], rfl, rfl, ?_⟩
      exact hK _ ⟨R, P, S, tg, at0, nu, rfl, hrl, hhr, hsl⟩
  · rw [inIB_f q0 rfl (by decide)]
    first | refine ⟨fun h => absurd h (by decide), fun _ => ?_⟩ | refine ⟨fun _ => ?_, fun h => absurd h (by decide)⟩
    obtain ⟨rfl, rfl⟩ := hr.2.1  q0
    refine ⟨_, R, P, S, sf, tg, _, _, _, at0, nu, _, [], rfl, rfl, ?_⟩
    exact hK _ ⟨R, P, S, tg, at0, nu, rfl, hrl, hhr, hsl⟩
def sX7_lines : gS := fun av es K => ∃ c th x y k ans c', av = [.ref 0, .int x, .int y] ∧ inv c ∧ mW c th es ∧ r_lines c x y k ans c' ∧ ∀ es', mW c' (nI k) es' → K (some (.int (an k ans))) es'
def rmX7_lines : Room := { frames := 1, cells := 0, slots := 0, locals := 25 }
def pX7_lines (K : gK) : List (Nat × gO) := [(0, oFR 7 (oALoad 0)), (1, oConst (nI 0)), (2, oPutI 7 10), (5, oFR 7 (oILoad 1)), (6, oConst (nI 0)), (7, oConst (nI 3)), (8, oSR 7 0 0 3 [] sX7_in), (11, oFR 7 (oIf_eq 23)), (14, oALoad 0), (15, oILoad 1), (16, oILoad 2), (17, oCallV0 0 0 7 2 sX7_linesOf), (20, oGoto 28), (23, oFR 7 (oALoad 0)), (24, oConst (nI 1)), (25, oCallV0 0 0 7 1 sX7_fails), (28, oFR 7 (oRet K 0 0))]
set_option maxRecDepth 100000 in
theorem kX7_lines {X : gX} {l : Launch} (hM : gM X l cX7_lines RX7 wsX7_lines rmX7_lines) {K : gK} (hE : gR X K 0 0 (some .int)) (hnL : X.2.2.2.2.2.2.2.2.2.2.2.2.2.2.2.2 = 3) : okL X (pX7_lines K) := by
  obtain ⟨p, l1, e, R, s, m, args, below, meth, c, D, cA, A, ag, ad0, Q, nL⟩ := X
  cases hnL
  refine ⟨ok_FR (ok_aload_n hM 0 dX7_lines_0 rfl),
    ok_iconst hM dX7_lines_1 rfl,
    ok_putI (C := RX7) (T := TX7) (Nf := 11) hM (fun _ h => List.mem_cons_of_mem _ (List.mem_append_right _ h)) tyX7 tyX7_ok nmX7 rfl 10 (by decide) (List.mem_of_getElem? (i := 1) rfl) rfl rfl (by decide +kernel) dX7_lines_2,
    ok_FR (ok_iload_n hM 1 dX7_lines_5 rfl),
    ok_iconst hM dX7_lines_6 rfl,
    ok_iconst hM dX7_lines_7 rfl,
    ok_SR (ok_callS hM [] (ctX7_in l) rfl gX7_lines_X7_in rfl rfl rfl (by decide +kernel) (by decide) dX7_lines_8),
    ok_FR (ok_if_eq hM 23 dX7_lines_11 (by decide)),
    ok_aload_n hM 0 dX7_lines_14 rfl,
    ok_iload_n hM 1 dX7_lines_15 rfl,
    ok_iload_n hM 2 dX7_lines_16 rfl,
    ok_callV0 hM (ctX7_linesOf l) rfl gX7_lines_X7_linesOf rfl rfl rfl (by decide +kernel) (by decide) dX7_lines_17,
    ok_goto hM 28 dX7_lines_20 (by decide),
    ok_FR (ok_aload_n hM 0 dX7_lines_23 rfl),
    ok_iconst hM dX7_lines_24 rfl,
    ok_callV0 hM (ctX7_fails l) rfl gX7_lines_X7_fails rfl rfl rfl (by decide +kernel) (by decide) dX7_lines_25,
    ok_FR (ok_ret hM hE dX7_lines_28),
    trivial⟩
set_option maxRecDepth 100000 in
theorem ctX7_lines (l : Launch) : Ct l yX7_lines wsX7_lines rmX7_lines 0 0 false sX7_lines := by
  refine ct_of (own := RX7) (cc := cX7_lines) (maxL := 3) (ret := (some .int)) (by decide) rfl rfl (by rintro _ _ _ ⟨c, th, x, y, k, ans, c', rfl, hinv, hw, hr, hK⟩; exact Nat.le_of_ble_eq_true rfl) ?_
  intro X av es K hM hE hag hin hnL hsp
  obtain ⟨c, th, x, y, k, ans, c', rfl, hinv, hw, hr, hK⟩ := hsp
  have hf := kX7_lines hM hE hnL
  obtain ⟨v, n, ch, H, o, s, sf, z0, z1⟩ := c
  obtain ⟨R, P, S, tg, at0, nu, rfl, hrl, hhr, hsl⟩ := hw
  obtain ⟨ho, hs, hn, hch, hk, hkH, hk0, hk1⟩ := hinv
  refine wr_ok hf cut_nil 9 0 _ _ _ _ _ ?_
  refine ⟨_, _, _, rfl, rfl, ?_⟩
  by_cases q0 : inI x 4
  · obtain ⟨t, ht, rfl⟩ := q0
    rw [inIB_t ⟨t, ht, rfl⟩ rfl (by decide)]
    first | refine ⟨fun h => absurd h (by decide), fun _ => ?_⟩ | refine ⟨fun _ => ?_, fun h => absurd h (by decide)⟩
    obtain ⟨rfl, ea, rfl⟩ := hr.1 t ht rfl
    refine ⟨_, _, t, _, R, _, rfl, rfl, rl_ln hk hrl, rfl, ?_⟩
    have hK := hK _ ⟨R, P, S, tg, at0, nu, rfl, hrl, hhr, hsl⟩
    have e9 : nI (cnt (lfP R t y) 32) = liR v t y := lf_b hrl t y
    rw [ea, ← e9] at hK
    exact hK
  · rw [inIB_f q0 rfl (by decide)]
    first | refine ⟨fun h => absurd h (by decide), fun _ => ?_⟩ | refine ⟨fun _ => ?_, fun h => absurd h (by decide)⟩
    obtain ⟨rfl, rfl⟩ := hr.2  q0
    refine ⟨_, R, P, S, sf, tg, _, _, _, at0, nu, _, [], rfl, rfl, ?_⟩
    exact hK _ ⟨R, P, S, tg, at0, nu, rfl, hrl, hhr, hsl⟩
def sX7_ifAccessed : gS := fun av es K => ∃ c th x y k ans c', av = [.ref 0, .int x, .int y] ∧ inv c ∧ mW c th es ∧ r_ifAccessed c x y k ans c' ∧ ∀ es', mW c' (nI k) es' → K (some (.int (an k ans))) es'
def rmX7_ifAccessed : Room := { frames := 2, cells := 0, slots := 0, locals := 46 }
def pX7_ifAccessed (K : gK) : List (Nat × gO) := [(0, oFR 7 (oALoad 0)), (1, oConst (nI 0)), (2, oPutI 7 10), (5, oFR 7 (oILoad 1)), (6, oConst (nI 0)), (7, oConst (nI 3)), (8, oSR 7 0 0 3 [] sX7_in), (11, oFR 7 (oIf_ne 20)), (14, oALoad 0), (15, oConst (nI 1)), (16, oCallV0 0 0 7 1 sX7_fails), (19, oFR 7 (oRet K 0 0)), (20, oILoad 2), (21, oConst (nI 0)), (22, oConst (nI 255)), (25, oSR 7 0 0 3 [] sX7_in), (28, oFR 7 (oIf_eq 40)), (31, oALoad 0), (32, oILoad 1), (33, oILoad 2), (34, oCallV0 0 0 7 2 sX7_wouldBe), (37, oGoto 45), (40, oFR 7 (oALoad 0)), (41, oConst (nI 2)), (42, oCallV0 0 0 7 1 sX7_fails), (45, oFR 7 (oRet K 0 0))]
set_option maxRecDepth 100000 in
theorem kX7_ifAccessed {X : gX} {l : Launch} (hM : gM X l cX7_ifAccessed RX7 wsX7_ifAccessed rmX7_ifAccessed) {K : gK} (hE : gR X K 0 0 (some .int)) (hnL : X.2.2.2.2.2.2.2.2.2.2.2.2.2.2.2.2 = 3) : okL X (pX7_ifAccessed K) := by
  obtain ⟨p, l1, e, R, s, m, args, below, meth, c, D, cA, A, ag, ad0, Q, nL⟩ := X
  cases hnL
  refine ⟨ok_FR (ok_aload_n hM 0 dX7_ifAccessed_0 rfl),
    ok_iconst hM dX7_ifAccessed_1 rfl,
    ok_putI (C := RX7) (T := TX7) (Nf := 11) hM (fun _ h => List.mem_cons_of_mem _ (List.mem_append_right _ h)) tyX7 tyX7_ok nmX7 rfl 10 (by decide) (List.mem_of_getElem? (i := 1) rfl) rfl rfl (by decide +kernel) dX7_ifAccessed_2,
    ok_FR (ok_iload_n hM 1 dX7_ifAccessed_5 rfl),
    ok_iconst hM dX7_ifAccessed_6 rfl,
    ok_iconst hM dX7_ifAccessed_7 rfl,
    ok_SR (ok_callS hM [] (ctX7_in l) rfl gX7_ifAccessed_X7_in rfl rfl rfl (by decide +kernel) (by decide) dX7_ifAccessed_8),
    ok_FR (ok_if_ne hM 20 dX7_ifAccessed_11 (by decide)),
    ok_aload_n hM 0 dX7_ifAccessed_14 rfl,
    ok_iconst hM dX7_ifAccessed_15 rfl,
    ok_callV0 hM (ctX7_fails l) rfl gX7_ifAccessed_X7_fails rfl rfl rfl (by decide +kernel) (by decide) dX7_ifAccessed_16,
    ok_FR (ok_ret hM hE dX7_ifAccessed_19),
    ok_iload_n hM 2 dX7_ifAccessed_20 rfl,
    ok_iconst hM dX7_ifAccessed_21 rfl,
    ok_sipush hM dX7_ifAccessed_22 rfl,
    ok_SR (ok_callS hM [] (ctX7_in l) rfl gX7_ifAccessed_X7_in rfl rfl rfl (by decide +kernel) (by decide) dX7_ifAccessed_25),
    ok_FR (ok_if_eq hM 40 dX7_ifAccessed_28 (by decide)),
    ok_aload_n hM 0 dX7_ifAccessed_31 rfl,
    ok_iload_n hM 1 dX7_ifAccessed_32 rfl,
    ok_iload_n hM 2 dX7_ifAccessed_33 rfl,
    ok_callV0 hM (ctX7_wouldBe l) rfl gX7_ifAccessed_X7_wouldBe rfl rfl rfl (by decide +kernel) (by decide) dX7_ifAccessed_34,
    ok_goto hM 45 dX7_ifAccessed_37 (by decide),
    ok_FR (ok_aload_n hM 0 dX7_ifAccessed_40 rfl),
    ok_iconst hM dX7_ifAccessed_41 rfl,
    ok_callV0 hM (ctX7_fails l) rfl gX7_ifAccessed_X7_fails rfl rfl rfl (by decide +kernel) (by decide) dX7_ifAccessed_42,
    ok_FR (ok_ret hM hE dX7_ifAccessed_45),
    trivial⟩
set_option maxRecDepth 100000 in
theorem ctX7_ifAccessed (l : Launch) : Ct l yX7_ifAccessed wsX7_ifAccessed rmX7_ifAccessed 0 0 false sX7_ifAccessed := by
  refine ct_of (own := RX7) (cc := cX7_ifAccessed) (maxL := 3) (ret := (some .int)) (by decide) rfl rfl (by rintro _ _ _ ⟨c, th, x, y, k, ans, c', rfl, hinv, hw, hr, hK⟩; exact Nat.le_of_ble_eq_true rfl) ?_
  intro X av es K hM hE hag hin hnL hsp
  obtain ⟨c, th, x, y, k, ans, c', rfl, hinv, hw, hr, hK⟩ := hsp
  have hf := kX7_ifAccessed hM hE hnL
  obtain ⟨v, n, ch, H, o, s, sf, z0, z1⟩ := c
  obtain ⟨R, P, S, tg, at0, nu, rfl, hrl, hhr, hsl⟩ := hw
  obtain ⟨ho, hs, hn, hch, hk, hkH, hk0, hk1⟩ := hinv
  refine wr_ok hf cut_nil 9 0 _ _ _ _ _ ?_
  refine ⟨_, _, _, rfl, rfl, ?_⟩
  by_cases q0 : inI x 4
  · obtain ⟨t, ht, rfl⟩ := q0
    rw [inIB_t ⟨t, ht, rfl⟩ rfl (by decide)]
    first | refine ⟨fun h => absurd h (by decide), fun _ => ?_⟩ | refine ⟨fun _ => ?_, fun h => absurd h (by decide)⟩
    refine ⟨_, _, _, rfl, rfl, ?_⟩
    by_cases q1 : inA y 0 255
    · obtain ⟨a, ha0, ha, rfl⟩ := q1
      rw [inB_t ⟨a, ha0, ha, rfl⟩ (by decide)]
      first | refine ⟨fun h => absurd h (by decide), fun _ => ?_⟩ | refine ⟨fun _ => ?_, fun h => absurd h (by decide)⟩
      obtain ⟨rfl, ea, rfl⟩ := hr.1 t a ht ha rfl rfl
      refine ⟨_, _, t, a, _, R, _, rfl, rfl, rfl, ht, by omega, rfl, ?_⟩
      have hK := hK _ ⟨R, P, S, tg, at0, nu, rfl, hrl, hhr, hsl⟩
      have e9 : rsl R (hdR R) (nI t) a = acR v t a := rl_rsl hrl (nI t) a
      rw [ea, ← e9] at hK
      exact hK
    · rw [inB_f q1 (by decide) (by decide)]
      first | refine ⟨fun h => absurd h (by decide), fun _ => ?_⟩ | refine ⟨fun _ => ?_, fun h => absurd h (by decide)⟩
      obtain ⟨rfl, rfl⟩ := hr.2.2 ⟨t, ht, rfl⟩ q1
      refine ⟨_, R, P, S, sf, tg, _, _, _, at0, nu, _, [], rfl, rfl, ?_⟩
      exact hK _ ⟨R, P, S, tg, at0, nu, rfl, hrl, hhr, hsl⟩
  · rw [inIB_f q0 rfl (by decide)]
    first | refine ⟨fun h => absurd h (by decide), fun _ => ?_⟩ | refine ⟨fun _ => ?_, fun h => absurd h (by decide)⟩
    obtain ⟨rfl, rfl⟩ := hr.2.1  q0
    refine ⟨_, R, P, S, sf, tg, _, _, _, at0, nu, _, [], rfl, rfl, ?_⟩
    exact hK _ ⟨R, P, S, tg, at0, nu, rfl, hrl, hhr, hsl⟩
def sX7_victim : gS := fun av es K => ∃ c th x y k ans c', av = [.ref 0, .int x, .int y] ∧ inv c ∧ mW c th es ∧ r_victim c x y k ans c' ∧ ∀ es', mW c' (nI k) es' → K (some (.int (an k ans))) es'
def rmX7_victim : Room := { frames := 2, cells := 0, slots := 0, locals := 46 }
def pX7_victim (K : gK) : List (Nat × gO) := [(0, oFR 7 (oALoad 0)), (1, oConst (nI 0)), (2, oPutI 7 10), (5, oFR 7 (oILoad 1)), (6, oConst (nI 0)), (7, oConst (nI 3)), (8, oSR 7 0 0 3 [] sX7_in), (11, oFR 7 (oIf_ne 20)), (14, oALoad 0), (15, oConst (nI 1)), (16, oCallV0 0 0 7 1 sX7_fails), (19, oFR 7 (oRet K 0 0)), (20, oILoad 2), (21, oConst (nI 0)), (22, oConst (nI 255)), (25, oSR 7 0 0 3 [] sX7_in), (28, oFR 7 (oIf_ne 37)), (31, oALoad 0), (32, oConst (nI 2)), (33, oCallV0 0 0 7 1 sX7_fails), (36, oFR 7 (oRet K 0 0)), (37, oALoad 0), (38, oILoad 1), (39, oILoad 2), (40, oCallV0 0 0 7 2 sX7_wouldBe), (43, oFR 7 (oIf_ne 63)), (46, oALoad 0), (47, oGet 7 0), (50, oConst (nI 8)), (52, oALoad 0), (53, oILoad 1), (54, oILoad 2), (55, oCallV0 0 0 7 2 sX7_placeFor), (58, oAdd), (59, oFR 7 (oIALd 0)), (60, oGoto 64), (63, oConst (-1)), (64, oRet K 0 0)]
set_option maxRecDepth 100000 in
theorem kX7_victim {X : gX} {l : Launch} (hM : gM X l cX7_victim RX7 wsX7_victim rmX7_victim) {K : gK} (hE : gR X K 0 0 (some .int)) (hnL : X.2.2.2.2.2.2.2.2.2.2.2.2.2.2.2.2 = 3) : okL X (pX7_victim K) := by
  obtain ⟨p, l1, e, R, s, m, args, below, meth, c, D, cA, A, ag, ad0, Q, nL⟩ := X
  cases hnL
  refine ⟨ok_FR (ok_aload_n hM 0 dX7_victim_0 rfl),
    ok_iconst hM dX7_victim_1 rfl,
    ok_putI (C := RX7) (T := TX7) (Nf := 11) hM (fun _ h => List.mem_cons_of_mem _ (List.mem_append_right _ h)) tyX7 tyX7_ok nmX7 rfl 10 (by decide) (List.mem_of_getElem? (i := 1) rfl) rfl rfl (by decide +kernel) dX7_victim_2,
    ok_FR (ok_iload_n hM 1 dX7_victim_5 rfl),
    ok_iconst hM dX7_victim_6 rfl,
    ok_iconst hM dX7_victim_7 rfl,
    ok_SR (ok_callS hM [] (ctX7_in l) rfl gX7_victim_X7_in rfl rfl rfl (by decide +kernel) (by decide) dX7_victim_8),
    ok_FR (ok_if_ne hM 20 dX7_victim_11 (by decide)),
    ok_aload_n hM 0 dX7_victim_14 rfl,
    ok_iconst hM dX7_victim_15 rfl,
    ok_callV0 hM (ctX7_fails l) rfl gX7_victim_X7_fails rfl rfl rfl (by decide +kernel) (by decide) dX7_victim_16,
    ok_FR (ok_ret hM hE dX7_victim_19),
    ok_iload_n hM 2 dX7_victim_20 rfl,
    ok_iconst hM dX7_victim_21 rfl,
    ok_sipush hM dX7_victim_22 rfl,
    ok_SR (ok_callS hM [] (ctX7_in l) rfl gX7_victim_X7_in rfl rfl rfl (by decide +kernel) (by decide) dX7_victim_25),
    ok_FR (ok_if_ne hM 37 dX7_victim_28 (by decide)),
    ok_aload_n hM 0 dX7_victim_31 rfl,
    ok_iconst hM dX7_victim_32 rfl,
    ok_callV0 hM (ctX7_fails l) rfl gX7_victim_X7_fails rfl rfl rfl (by decide +kernel) (by decide) dX7_victim_33,
    ok_FR (ok_ret hM hE dX7_victim_36),
    ok_aload_n hM 0 dX7_victim_37 rfl,
    ok_iload_n hM 1 dX7_victim_38 rfl,
    ok_iload_n hM 2 dX7_victim_39 rfl,
    ok_callV0 hM (ctX7_wouldBe l) rfl gX7_victim_X7_wouldBe rfl rfl rfl (by decide +kernel) (by decide) dX7_victim_40,
    ok_FR (ok_if_ne hM 63 dX7_victim_43 (by decide)),
    ok_aload_n hM 0 dX7_victim_46 rfl,
    ok_get (C := RX7) (T := TX7) (Nf := 11) hM (fun _ h => List.mem_cons_of_mem _ (List.mem_append_right _ h)) rfl 0 (by decide) (List.mem_of_getElem? (i := 2) rfl) rfl dX7_victim_47,
    ok_bipush hM dX7_victim_50 rfl,
    ok_aload_n hM 0 dX7_victim_52 rfl,
    ok_iload_n hM 1 dX7_victim_53 rfl,
    ok_iload_n hM 2 dX7_victim_54 rfl,
    ok_callV0 hM (ctX7_placeFor l) rfl gX7_victim_X7_placeFor rfl rfl rfl (by decide +kernel) (by decide) dX7_victim_55,
    ok_iadd hM dX7_victim_58,
    ok_FR (ok_iald hM dX7_victim_59),
    ok_goto hM 64 dX7_victim_60 (by decide),
    ok_iconst hM dX7_victim_63 rfl,
    ok_ret hM hE dX7_victim_64,
    trivial⟩
set_option maxRecDepth 100000 in
theorem ctX7_victim (l : Launch) : Ct l yX7_victim wsX7_victim rmX7_victim 0 0 false sX7_victim := by
  refine ct_of (own := RX7) (cc := cX7_victim) (maxL := 3) (ret := (some .int)) (by decide) rfl rfl (by rintro _ _ _ ⟨c, th, x, y, k, ans, c', rfl, hinv, hw, hr, hK⟩; exact Nat.le_of_ble_eq_true rfl) ?_
  intro X av es K hM hE hag hin hnL hsp
  obtain ⟨c, th, x, y, k, ans, c', rfl, hinv, hw, hr, hK⟩ := hsp
  have hf := kX7_victim hM hE hnL
  obtain ⟨v, n, ch, H, o, s, sf, z0, z1⟩ := c
  obtain ⟨R, P, S, tg, at0, nu, rfl, hrl, hhr, hsl⟩ := hw
  obtain ⟨ho, hs, hn, hch, hk, hkH, hk0, hk1⟩ := hinv
  refine wr_ok hf cut_nil 9 0 _ _ _ _ _ ?_
  refine ⟨_, _, _, rfl, rfl, ?_⟩
  by_cases q0 : inI x 4
  · obtain ⟨t, ht, rfl⟩ := q0
    rw [inIB_t ⟨t, ht, rfl⟩ rfl (by decide)]
    first | refine ⟨fun h => absurd h (by decide), fun _ => ?_⟩ | refine ⟨fun _ => ?_, fun h => absurd h (by decide)⟩
    refine ⟨_, _, _, rfl, rfl, ?_⟩
    by_cases q1 : inA y 0 255
    · obtain ⟨a, ha0, ha, rfl⟩ := q1
      rw [inB_t ⟨a, ha0, ha, rfl⟩ (by decide)]
      first | refine ⟨fun h => absurd h (by decide), fun _ => ?_⟩ | refine ⟨fun _ => ?_, fun h => absurd h (by decide)⟩
      obtain ⟨rfl, ea, rfl⟩ := hr.1 t a ht ha rfl rfl
      have hr2 : acR v t a ≤ 2 := rsl_le _ _ _ _
      refine ⟨_, _, t, a, _, R, _, rfl, rfl, rfl, ht, by omega, rfl, ?_⟩
      rw [rl_rsl hrl (nI t) a]
      have hK := hK _ ⟨R, P, S, tg, at0, nu, rfl, hrl, hhr, hsl⟩
      rw [ea] at hK
      unfold vcR at hK
      refine ⟨fun h1 => ?_, fun h1 => ?_⟩
      · have h2 : ¬ acR v t a = 0 := fun q => h1 (by show nI (acR v t a) = nI 0; rw [q])
        rw [if_neg h2] at hK
        exact hK
      · have h1 : nI (acR v t a) = nI 0 := h1
        have h2 : acR v t a = 0 := nI_inj h1 (by omega) (by decide)
        obtain ⟨p, hp32, hp⟩ := pt_some h2
        rw [if_pos h2, hp] at hK
        refine ⟨_, _, t, a, _, R, _, rfl, rfl, rfl, by omega, rfl, ?_⟩
        rw [(rl_ptf hrl (nI t) a).trans hp]
        refine ⟨8 + p, nI_add _ _, by omega, ?_⟩
        have e9 : R (8 + p) = vHd v p := hrl.2.1 p hp32
        have hK : K (some (.int (vHd v p))) _ := hK
        rw [← e9] at hK
        exact hK
    · rw [inB_f q1 (by decide) (by decide)]
      first | refine ⟨fun h => absurd h (by decide), fun _ => ?_⟩ | refine ⟨fun _ => ?_, fun h => absurd h (by decide)⟩
      obtain ⟨rfl, rfl⟩ := hr.2.2 ⟨t, ht, rfl⟩ q1
      refine ⟨_, R, P, S, sf, tg, _, _, _, at0, nu, _, [], rfl, rfl, ?_⟩
      exact hK _ ⟨R, P, S, tg, at0, nu, rfl, hrl, hhr, hsl⟩
  · rw [inIB_f q0 rfl (by decide)]
    first | refine ⟨fun h => absurd h (by decide), fun _ => ?_⟩ | refine ⟨fun _ => ?_, fun h => absurd h (by decide)⟩
    obtain ⟨rfl, rfl⟩ := hr.2.1  q0
    refine ⟨_, R, P, S, sf, tg, _, _, _, at0, nu, _, [], rfl, rfl, ?_⟩
    exact hK _ ⟨R, P, S, tg, at0, nu, rfl, hrl, hhr, hsl⟩
def sX7_gain : gS := fun av es K => ∃ c th x y k ans c', av = [.ref 0, .int x, .int y] ∧ inv c ∧ mW c th es ∧ r_gain c x y k ans c' ∧ ∀ es', mW c' (nI k) es' → K (some (.int (an k ans))) es'
def rmX7_gain : Room := { frames := 1, cells := 0, slots := 0, locals := 22 }
def pX7_gain (K : gK) : List (Nat × gO) := [(0, oFR 7 (oALoad 0)), (1, oConst (nI 0)), (2, oPutI 7 10), (5, oFR 7 (oILoad 1)), (6, oConst (nI 0)), (7, oConst (nI 3)), (8, oSR 7 0 0 3 [] sX7_in), (11, oFR 7 (oIf_eq 42)), (14, oILoad 2), (15, oConst (nI 0)), (16, oConst (nI 7)), (18, oSR 7 0 0 3 [] sX7_in), (21, oFR 7 (oIf_eq 42)), (24, oALoad 0), (25, oGet 7 0), (28, oConst (nI 152)), (31, oConst (nI 8)), (33, oILoad 1), (34, oMul), (35, oAdd), (36, oILoad 2), (37, oAdd), (38, oIALd 0), (39, oGoto 47), (42, oALoad 0), (43, oConst (nI 1)), (44, oCallV0 0 0 7 1 sX7_fails), (47, oFR 7 (oRet K 0 0))]
set_option maxRecDepth 100000 in
theorem kX7_gain {X : gX} {l : Launch} (hM : gM X l cX7_gain RX7 wsX7_gain rmX7_gain) {K : gK} (hE : gR X K 0 0 (some .int)) (hnL : X.2.2.2.2.2.2.2.2.2.2.2.2.2.2.2.2 = 3) : okL X (pX7_gain K) := by
  obtain ⟨p, l1, e, R, s, m, args, below, meth, c, D, cA, A, ag, ad0, Q, nL⟩ := X
  cases hnL
  refine ⟨ok_FR (ok_aload_n hM 0 dX7_gain_0 rfl),
    ok_iconst hM dX7_gain_1 rfl,
    ok_putI (C := RX7) (T := TX7) (Nf := 11) hM (fun _ h => List.mem_cons_of_mem _ (List.mem_append_right _ h)) tyX7 tyX7_ok nmX7 rfl 10 (by decide) (List.mem_of_getElem? (i := 1) rfl) rfl rfl (by decide +kernel) dX7_gain_2,
    ok_FR (ok_iload_n hM 1 dX7_gain_5 rfl),
    ok_iconst hM dX7_gain_6 rfl,
    ok_iconst hM dX7_gain_7 rfl,
    ok_SR (ok_callS hM [] (ctX7_in l) rfl gX7_gain_X7_in rfl rfl rfl (by decide +kernel) (by decide) dX7_gain_8),
    ok_FR (ok_if_eq hM 42 dX7_gain_11 (by decide)),
    ok_iload_n hM 2 dX7_gain_14 rfl,
    ok_iconst hM dX7_gain_15 rfl,
    ok_bipush hM dX7_gain_16 rfl,
    ok_SR (ok_callS hM [] (ctX7_in l) rfl gX7_gain_X7_in rfl rfl rfl (by decide +kernel) (by decide) dX7_gain_18),
    ok_FR (ok_if_eq hM 42 dX7_gain_21 (by decide)),
    ok_aload_n hM 0 dX7_gain_24 rfl,
    ok_get (C := RX7) (T := TX7) (Nf := 11) hM (fun _ h => List.mem_cons_of_mem _ (List.mem_append_right _ h)) rfl 0 (by decide) (List.mem_of_getElem? (i := 2) rfl) rfl dX7_gain_25,
    ok_sipush hM dX7_gain_28 rfl,
    ok_bipush hM dX7_gain_31 rfl,
    ok_iload_n hM 1 dX7_gain_33 rfl,
    ok_imul hM dX7_gain_34,
    ok_iadd hM dX7_gain_35,
    ok_iload_n hM 2 dX7_gain_36 rfl,
    ok_iadd hM dX7_gain_37,
    ok_iald hM dX7_gain_38,
    ok_goto hM 47 dX7_gain_39 (by decide),
    ok_aload_n hM 0 dX7_gain_42 rfl,
    ok_iconst hM dX7_gain_43 rfl,
    ok_callV0 hM (ctX7_fails l) rfl gX7_gain_X7_fails rfl rfl rfl (by decide +kernel) (by decide) dX7_gain_44,
    ok_FR (ok_ret hM hE dX7_gain_47),
    trivial⟩
set_option maxRecDepth 100000 in
theorem ctX7_gain (l : Launch) : Ct l yX7_gain wsX7_gain rmX7_gain 0 0 false sX7_gain := by
  refine ct_of (own := RX7) (cc := cX7_gain) (maxL := 3) (ret := (some .int)) (by decide) rfl rfl (by rintro _ _ _ ⟨c, th, x, y, k, ans, c', rfl, hinv, hw, hr, hK⟩; exact Nat.le_of_ble_eq_true rfl) ?_
  intro X av es K hM hE hag hin hnL hsp
  obtain ⟨c, th, x, y, k, ans, c', rfl, hinv, hw, hr, hK⟩ := hsp
  have hf := kX7_gain hM hE hnL
  obtain ⟨v, n, ch, H, o, s, sf, z0, z1⟩ := c
  obtain ⟨R, P, S, tg, at0, nu, rfl, hrl, hhr, hsl⟩ := hw
  obtain ⟨ho, hs, hn, hch, hk, hkH, hk0, hk1⟩ := hinv
  refine wr_ok hf cut_nil 9 0 _ _ _ _ _ ?_
  refine ⟨_, _, _, rfl, rfl, ?_⟩
  by_cases q0 : inI x 4
  · obtain ⟨t, ht, rfl⟩ := q0
    rw [inIB_t ⟨t, ht, rfl⟩ rfl (by decide)]
    first | refine ⟨fun h => absurd h (by decide), fun _ => ?_⟩ | refine ⟨fun _ => ?_, fun h => absurd h (by decide)⟩
    refine ⟨_, _, _, rfl, rfl, ?_⟩
    by_cases q1 : inI y 8
    · obtain ⟨w, hw, rfl⟩ := q1
      rw [inIB_t ⟨w, hw, rfl⟩ rfl (by decide)]
      first | refine ⟨fun h => absurd h (by decide), fun _ => ?_⟩ | refine ⟨fun _ => ?_, fun h => absurd h (by decide)⟩
      obtain ⟨rfl, ea, rfl⟩ := hr.1 t w ht hw rfl rfl
      refine ⟨152 + (t * 8 + w), ix_8 152 t w, by omega, ?_⟩
      have hK := hK _ ⟨R, P, S, tg, at0, nu, rfl, hrl, hhr, hsl⟩
      have e9 : R (152 + (t * 8 + w)) = vGa v (t * 8 + w) := hrl.2.2.2.2.1 _ (by omega)
      rw [ea, ← e9] at hK
      exact hK
    · rw [inIB_f q1 rfl (by decide)]
      first | refine ⟨fun h => absurd h (by decide), fun _ => ?_⟩ | refine ⟨fun _ => ?_, fun h => absurd h (by decide)⟩
      obtain ⟨rfl, rfl⟩ := hr.2.2 ⟨t, ht, rfl⟩ q1
      refine ⟨_, R, P, S, sf, tg, _, _, _, at0, nu, _, [], rfl, rfl, ?_⟩
      exact hK _ ⟨R, P, S, tg, at0, nu, rfl, hrl, hhr, hsl⟩
  · rw [inIB_f q0 rfl (by decide)]
    first | refine ⟨fun h => absurd h (by decide), fun _ => ?_⟩ | refine ⟨fun _ => ?_, fun h => absurd h (by decide)⟩
    obtain ⟨rfl, rfl⟩ := hr.2.1  q0
    refine ⟨_, R, P, S, sf, tg, _, _, _, at0, nu, _, [], rfl, rfl, ?_⟩
    exact hK _ ⟨R, P, S, tg, at0, nu, rfl, hrl, hhr, hsl⟩
def sX7_utility : gS := fun av es K => ∃ c th x y k ans c', av = [.ref 0, .int x, .int y] ∧ inv c ∧ mW c th es ∧ r_utility c x y k ans c' ∧ ∀ es', mW c' (nI k) es' → K (some (.int (an k ans))) es'
def rmX7_utility : Room := { frames := 1, cells := 0, slots := 0, locals := 24 }
def pX7_utility (K : gK) : List (Nat × gO) := [(0, oFR 7 (oALoad 0)), (1, oConst (nI 0)), (2, oPutI 7 10), (5, oFR 7 (oILoad 1)), (6, oConst (nI 0)), (7, oConst (nI 3)), (8, oSR 7 0 0 3 [] sX7_in), (11, oFR 7 (oIf_ne 20)), (14, oALoad 0), (15, oConst (nI 1)), (16, oCallV0 0 0 7 1 sX7_fails), (19, oFR 7 (oRet K 0 0)), (20, oILoad 2), (21, oConst (nI 0)), (22, oConst (nI 8)), (24, oSR 7 0 0 3 [] sX7_in), (27, oFR 7 (oIf_eq 39)), (30, oALoad 0), (31, oILoad 1), (32, oILoad 2), (33, oCallV0 0 0 7 2 sX7_gained), (36, oGoto 44), (39, oFR 7 (oALoad 0)), (40, oConst (nI 2)), (41, oCallV0 0 0 7 1 sX7_fails), (44, oFR 7 (oRet K 0 0))]
set_option maxRecDepth 100000 in
theorem kX7_utility {X : gX} {l : Launch} (hM : gM X l cX7_utility RX7 wsX7_utility rmX7_utility) {K : gK} (hE : gR X K 0 0 (some .int)) (hnL : X.2.2.2.2.2.2.2.2.2.2.2.2.2.2.2.2 = 3) : okL X (pX7_utility K) := by
  obtain ⟨p, l1, e, R, s, m, args, below, meth, c, D, cA, A, ag, ad0, Q, nL⟩ := X
  cases hnL
  refine ⟨ok_FR (ok_aload_n hM 0 dX7_utility_0 rfl),
    ok_iconst hM dX7_utility_1 rfl,
    ok_putI (C := RX7) (T := TX7) (Nf := 11) hM (fun _ h => List.mem_cons_of_mem _ (List.mem_append_right _ h)) tyX7 tyX7_ok nmX7 rfl 10 (by decide) (List.mem_of_getElem? (i := 1) rfl) rfl rfl (by decide +kernel) dX7_utility_2,
    ok_FR (ok_iload_n hM 1 dX7_utility_5 rfl),
    ok_iconst hM dX7_utility_6 rfl,
    ok_iconst hM dX7_utility_7 rfl,
    ok_SR (ok_callS hM [] (ctX7_in l) rfl gX7_utility_X7_in rfl rfl rfl (by decide +kernel) (by decide) dX7_utility_8),
    ok_FR (ok_if_ne hM 20 dX7_utility_11 (by decide)),
    ok_aload_n hM 0 dX7_utility_14 rfl,
    ok_iconst hM dX7_utility_15 rfl,
    ok_callV0 hM (ctX7_fails l) rfl gX7_utility_X7_fails rfl rfl rfl (by decide +kernel) (by decide) dX7_utility_16,
    ok_FR (ok_ret hM hE dX7_utility_19),
    ok_iload_n hM 2 dX7_utility_20 rfl,
    ok_iconst hM dX7_utility_21 rfl,
    ok_bipush hM dX7_utility_22 rfl,
    ok_SR (ok_callS hM [] (ctX7_in l) rfl gX7_utility_X7_in rfl rfl rfl (by decide +kernel) (by decide) dX7_utility_24),
    ok_FR (ok_if_eq hM 39 dX7_utility_27 (by decide)),
    ok_aload_n hM 0 dX7_utility_30 rfl,
    ok_iload_n hM 1 dX7_utility_31 rfl,
    ok_iload_n hM 2 dX7_utility_32 rfl,
    ok_callV0 hM (ctX7_gained l) rfl gX7_utility_X7_gained rfl rfl rfl (by decide +kernel) (by decide) dX7_utility_33,
    ok_goto hM 44 dX7_utility_36 (by decide),
    ok_FR (ok_aload_n hM 0 dX7_utility_39 rfl),
    ok_iconst hM dX7_utility_40 rfl,
    ok_callV0 hM (ctX7_fails l) rfl gX7_utility_X7_fails rfl rfl rfl (by decide +kernel) (by decide) dX7_utility_41,
    ok_FR (ok_ret hM hE dX7_utility_44),
    trivial⟩
set_option maxRecDepth 100000 in
theorem ctX7_utility (l : Launch) : Ct l yX7_utility wsX7_utility rmX7_utility 0 0 false sX7_utility := by
  refine ct_of (own := RX7) (cc := cX7_utility) (maxL := 3) (ret := (some .int)) (by decide) rfl rfl (by rintro _ _ _ ⟨c, th, x, y, k, ans, c', rfl, hinv, hw, hr, hK⟩; exact Nat.le_of_ble_eq_true rfl) ?_
  intro X av es K hM hE hag hin hnL hsp
  obtain ⟨c, th, x, y, k, ans, c', rfl, hinv, hw, hr, hK⟩ := hsp
  have hf := kX7_utility hM hE hnL
  obtain ⟨v, n, ch, H, o, s, sf, z0, z1⟩ := c
  obtain ⟨R, P, S, tg, at0, nu, rfl, hrl, hhr, hsl⟩ := hw
  obtain ⟨ho, hs, hn, hch, hk, hkH, hk0, hk1⟩ := hinv
  refine wr_ok hf cut_nil 9 0 _ _ _ _ _ ?_
  refine ⟨_, _, _, rfl, rfl, ?_⟩
  by_cases q0 : inI x 4
  · obtain ⟨t, ht, rfl⟩ := q0
    rw [inIB_t ⟨t, ht, rfl⟩ rfl (by decide)]
    first | refine ⟨fun h => absurd h (by decide), fun _ => ?_⟩ | refine ⟨fun _ => ?_, fun h => absurd h (by decide)⟩
    refine ⟨_, _, _, rfl, rfl, ?_⟩
    by_cases q1 : inA y 0 8
    · obtain ⟨w, hw0, hw, rfl⟩ := q1
      rw [inB_t ⟨w, hw0, hw, rfl⟩ (by decide)]
      first | refine ⟨fun h => absurd h (by decide), fun _ => ?_⟩ | refine ⟨fun _ => ?_, fun h => absurd h (by decide)⟩
      obtain ⟨rfl, ea, rfl⟩ := hr.1 t w ht hw rfl rfl
      refine ⟨_, _, t, w, _, R, _, rfl, rfl, rfl, ht, hw, rfl, ?_⟩
      have hK := hK _ ⟨R, P, S, tg, at0, nu, rfl, hrl, hhr, hsl⟩
      have e9 : sumI (fun p => gaR R (t * 8 + p)) w = sumI (fun p => vGa v (t * 8 + p)) w := rl_sum hrl ht hw
      rw [ea, ← e9] at hK
      exact hK
    · rw [inB_f q1 (by decide) (by decide)]
      first | refine ⟨fun h => absurd h (by decide), fun _ => ?_⟩ | refine ⟨fun _ => ?_, fun h => absurd h (by decide)⟩
      obtain ⟨rfl, rfl⟩ := hr.2.2 ⟨t, ht, rfl⟩ q1
      refine ⟨_, R, P, S, sf, tg, _, _, _, at0, nu, _, [], rfl, rfl, ?_⟩
      exact hK _ ⟨R, P, S, tg, at0, nu, rfl, hrl, hhr, hsl⟩
  · rw [inIB_f q0 rfl (by decide)]
    first | refine ⟨fun h => absurd h (by decide), fun _ => ?_⟩ | refine ⟨fun _ => ?_, fun h => absurd h (by decide)⟩
    obtain ⟨rfl, rfl⟩ := hr.2.1  q0
    refine ⟨_, R, P, S, sf, tg, _, _, _, at0, nu, _, [], rfl, rfl, ?_⟩
    exact hK _ ⟨R, P, S, tg, at0, nu, rfl, hrl, hhr, hsl⟩
def sX7_target : gS := fun av es K => ∃ c th x k ans c', av = [.ref 0, .int x] ∧ inv c ∧ mW c th es ∧ r_target c x k ans c' ∧ ∀ es', mW c' (nI k) es' → K (some (.int (an k ans))) es'
def rmX7_target : Room := { frames := 3, cells := 0, slots := 0, locals := 74 }
def pX7_target (K : gK) : List (Nat × gO) := [(0, oFR 7 (oALoad 0)), (1, oConst (nI 0)), (2, oPutI 7 10), (5, oFR 7 (oALoad 0)), (6, oCallV0 0 0 7 0 sX7_findTargets), (9, oFR 7 (oILoad 1)), (10, oConst (nI 0)), (11, oConst (nI 3)), (12, oSR 7 0 0 3 [] sX7_in), (15, oFR 7 (oIf_eq 27)), (18, oALoad 0), (19, oGet 7 5), (22, oILoad 1), (23, oIALd 0), (24, oGoto 32), (27, oALoad 0), (28, oConst (nI 1)), (29, oCallV0 0 0 7 1 sX7_fails), (32, oFR 7 (oRet K 0 0))]
set_option maxRecDepth 100000 in
theorem kX7_target {X : gX} {l : Launch} (hM : gM X l cX7_target RX7 wsX7_target rmX7_target) {K : gK} (hE : gR X K 0 0 (some .int)) (hnL : X.2.2.2.2.2.2.2.2.2.2.2.2.2.2.2.2 = 2) : okL X (pX7_target K) := by
  obtain ⟨p, l1, e, R, s, m, args, below, meth, c, D, cA, A, ag, ad0, Q, nL⟩ := X
  cases hnL
  refine ⟨ok_FR (ok_aload_n hM 0 dX7_target_0 rfl),
    ok_iconst hM dX7_target_1 rfl,
    ok_putI (C := RX7) (T := TX7) (Nf := 11) hM (fun _ h => List.mem_cons_of_mem _ (List.mem_append_right _ h)) tyX7 tyX7_ok nmX7 rfl 10 (by decide) (List.mem_of_getElem? (i := 1) rfl) rfl rfl (by decide +kernel) dX7_target_2,
    ok_FR (ok_aload_n hM 0 dX7_target_5 rfl),
    ok_callV0 hM (ctX7_findTargets l) rfl gX7_target_X7_findTargets rfl rfl rfl (by decide +kernel) (by decide) dX7_target_6,
    ok_FR (ok_iload_n hM 1 dX7_target_9 rfl),
    ok_iconst hM dX7_target_10 rfl,
    ok_iconst hM dX7_target_11 rfl,
    ok_SR (ok_callS hM [] (ctX7_in l) rfl gX7_target_X7_in rfl rfl rfl (by decide +kernel) (by decide) dX7_target_12),
    ok_FR (ok_if_eq hM 27 dX7_target_15 (by decide)),
    ok_aload_n hM 0 dX7_target_18 rfl,
    ok_get (C := RX7) (T := TX7) (Nf := 11) hM (fun _ h => List.mem_cons_of_mem _ (List.mem_append_right _ h)) rfl 5 (by decide) (List.mem_of_getElem? (i := 2) rfl) rfl dX7_target_19,
    ok_iload_n hM 1 dX7_target_22 rfl,
    ok_iald hM dX7_target_23,
    ok_goto hM 32 dX7_target_24 (by decide),
    ok_aload_n hM 0 dX7_target_27 rfl,
    ok_iconst hM dX7_target_28 rfl,
    ok_callV0 hM (ctX7_fails l) rfl gX7_target_X7_fails rfl rfl rfl (by decide +kernel) (by decide) dX7_target_29,
    ok_FR (ok_ret hM hE dX7_target_32),
    trivial⟩
set_option maxRecDepth 100000 in
theorem ctX7_target (l : Launch) : Ct l yX7_target wsX7_target rmX7_target 0 0 false sX7_target := by
  refine ct_of (own := RX7) (cc := cX7_target) (maxL := 2) (ret := (some .int)) (by decide) rfl rfl (by rintro _ _ _ ⟨c, th, x, k, ans, c', rfl, hinv, hw, hr, hK⟩; exact Nat.le_of_ble_eq_true rfl) ?_
  intro X av es K hM hE hag hin hnL hsp
  obtain ⟨c, th, x, k, ans, c', rfl, hinv, hw, hr, hK⟩ := hsp
  have hf := kX7_target hM hE hnL
  obtain ⟨v, n, ch, H, o, s, sf, z0, z1⟩ := c
  obtain ⟨R, P, S, tg, at0, nu, rfl, hrl, hhr, hsl⟩ := hw
  obtain ⟨ho, hs, hn, hch, hk, hkH, hk0, hk1⟩ := hinv
  refine wr_ok hf cut_nil 9 0 _ _ _ _ _ ?_
  refine ⟨lfv v, R, P, S, sf, tg, _, _, _, at0, nu, _, [], rfl, lfR_ok hk hrl, rfl, ?_⟩
  refine ⟨_, _, _, rfl, rfl, ?_⟩
  by_cases q0 : inI x 4
  · obtain ⟨t, ht, rfl⟩ := q0
    rw [inIB_t ⟨t, ht, rfl⟩ rfl (by decide)]
    first | refine ⟨fun h => absurd h (by decide), fun _ => ?_⟩ | refine ⟨fun _ => ?_, fun h => absurd h (by decide)⟩
    obtain ⟨rfl, ea, rfl⟩ := hr.1 t ht rfl
    refine ⟨t, rfl, ht, ?_⟩
    have hK := hK _ ⟨R, P, S, (nF (tgt (lfv v) (gaR R))), at0, nu, rfl, hrl, hhr, hsl⟩
    have e9 : nF (tgt (lfv v) (gaR R)) t = nI (tgt (lfv v) (vGa v) t) := by rw [rl_tgt hrl]; rfl
    rw [ea, ← e9] at hK
    exact hK
  · rw [inIB_f q0 rfl (by decide)]
    first | refine ⟨fun h => absurd h (by decide), fun _ => ?_⟩ | refine ⟨fun _ => ?_, fun h => absurd h (by decide)⟩
    obtain ⟨rfl, rfl⟩ := hr.2  q0
    refine ⟨_, R, P, S, sf, (nF (tgt (lfv v) (gaR R))), _, _, _, at0, nu, _, [], rfl, rfl, ?_⟩
    exact hK _ ⟨R, P, S, (nF (tgt (lfv v) (gaR R))), at0, nu, rfl, hrl, hhr, hsl⟩
def sX7_count : gS := fun av es K => ∃ c th x y k ans c', av = [.ref 0, .int x, .int y] ∧ inv c ∧ mW c th es ∧ r_count c x y k ans c' ∧ ∀ es', mW c' (nI k) es' → K (some (.int (an k ans))) es'
def rmX7_count : Room := { frames := 1, cells := 0, slots := 0, locals := 22 }
def pX7_count (K : gK) : List (Nat × gO) := [(0, oFR 7 (oALoad 0)), (1, oConst (nI 0)), (2, oPutI 7 10), (5, oFR 7 (oILoad 1)), (6, oConst (nI 0)), (7, oConst (nI 3)), (8, oSR 7 0 0 3 [] sX7_in), (11, oFR 7 (oIf_ne 20)), (14, oALoad 0), (15, oConst (nI 1)), (16, oCallV0 0 0 7 1 sX7_fails), (19, oFR 7 (oRet K 0 0)), (20, oILoad 2), (21, oConst (nI 0)), (22, oConst (nI 3)), (23, oSR 7 0 0 3 [] sX7_in), (26, oFR 7 (oIf_eq 46)), (29, oALoad 0), (30, oGet 7 0), (33, oConst (nI 190)), (36, oConst (nI 4)), (37, oILoad 1), (38, oMul), (39, oAdd), (40, oILoad 2), (41, oAdd), (42, oIALd 0), (43, oGoto 51), (46, oALoad 0), (47, oConst (nI 2)), (48, oCallV0 0 0 7 1 sX7_fails), (51, oFR 7 (oRet K 0 0))]
set_option maxRecDepth 100000 in
theorem kX7_count {X : gX} {l : Launch} (hM : gM X l cX7_count RX7 wsX7_count rmX7_count) {K : gK} (hE : gR X K 0 0 (some .int)) (hnL : X.2.2.2.2.2.2.2.2.2.2.2.2.2.2.2.2 = 3) : okL X (pX7_count K) := by
  obtain ⟨p, l1, e, R, s, m, args, below, meth, c, D, cA, A, ag, ad0, Q, nL⟩ := X
  cases hnL
  refine ⟨ok_FR (ok_aload_n hM 0 dX7_count_0 rfl),
    ok_iconst hM dX7_count_1 rfl,
    ok_putI (C := RX7) (T := TX7) (Nf := 11) hM (fun _ h => List.mem_cons_of_mem _ (List.mem_append_right _ h)) tyX7 tyX7_ok nmX7 rfl 10 (by decide) (List.mem_of_getElem? (i := 1) rfl) rfl rfl (by decide +kernel) dX7_count_2,
    ok_FR (ok_iload_n hM 1 dX7_count_5 rfl),
    ok_iconst hM dX7_count_6 rfl,
    ok_iconst hM dX7_count_7 rfl,
    ok_SR (ok_callS hM [] (ctX7_in l) rfl gX7_count_X7_in rfl rfl rfl (by decide +kernel) (by decide) dX7_count_8),
    ok_FR (ok_if_ne hM 20 dX7_count_11 (by decide)),
    ok_aload_n hM 0 dX7_count_14 rfl,
    ok_iconst hM dX7_count_15 rfl,
    ok_callV0 hM (ctX7_fails l) rfl gX7_count_X7_fails rfl rfl rfl (by decide +kernel) (by decide) dX7_count_16,
    ok_FR (ok_ret hM hE dX7_count_19),
    ok_iload_n hM 2 dX7_count_20 rfl,
    ok_iconst hM dX7_count_21 rfl,
    ok_iconst hM dX7_count_22 rfl,
    ok_SR (ok_callS hM [] (ctX7_in l) rfl gX7_count_X7_in rfl rfl rfl (by decide +kernel) (by decide) dX7_count_23),
    ok_FR (ok_if_eq hM 46 dX7_count_26 (by decide)),
    ok_aload_n hM 0 dX7_count_29 rfl,
    ok_get (C := RX7) (T := TX7) (Nf := 11) hM (fun _ h => List.mem_cons_of_mem _ (List.mem_append_right _ h)) rfl 0 (by decide) (List.mem_of_getElem? (i := 2) rfl) rfl dX7_count_30,
    ok_sipush hM dX7_count_33 rfl,
    ok_iconst hM dX7_count_36 rfl,
    ok_iload_n hM 1 dX7_count_37 rfl,
    ok_imul hM dX7_count_38,
    ok_iadd hM dX7_count_39,
    ok_iload_n hM 2 dX7_count_40 rfl,
    ok_iadd hM dX7_count_41,
    ok_iald hM dX7_count_42,
    ok_goto hM 51 dX7_count_43 (by decide),
    ok_aload_n hM 0 dX7_count_46 rfl,
    ok_iconst hM dX7_count_47 rfl,
    ok_callV0 hM (ctX7_fails l) rfl gX7_count_X7_fails rfl rfl rfl (by decide +kernel) (by decide) dX7_count_48,
    ok_FR (ok_ret hM hE dX7_count_51),
    trivial⟩
set_option maxRecDepth 100000 in
theorem ctX7_count (l : Launch) : Ct l yX7_count wsX7_count rmX7_count 0 0 false sX7_count := by
  refine ct_of (own := RX7) (cc := cX7_count) (maxL := 3) (ret := (some .int)) (by decide) rfl rfl (by rintro _ _ _ ⟨c, th, x, y, k, ans, c', rfl, hinv, hw, hr, hK⟩; exact Nat.le_of_ble_eq_true rfl) ?_
  intro X av es K hM hE hag hin hnL hsp
  obtain ⟨c, th, x, y, k, ans, c', rfl, hinv, hw, hr, hK⟩ := hsp
  have hf := kX7_count hM hE hnL
  obtain ⟨v, n, ch, H, o, s, sf, z0, z1⟩ := c
  obtain ⟨R, P, S, tg, at0, nu, rfl, hrl, hhr, hsl⟩ := hw
  obtain ⟨ho, hs, hn, hch, hk, hkH, hk0, hk1⟩ := hinv
  refine wr_ok hf cut_nil 9 0 _ _ _ _ _ ?_
  refine ⟨_, _, _, rfl, rfl, ?_⟩
  by_cases q0 : inI x 4
  · obtain ⟨t, ht, rfl⟩ := q0
    rw [inIB_t ⟨t, ht, rfl⟩ rfl (by decide)]
    first | refine ⟨fun h => absurd h (by decide), fun _ => ?_⟩ | refine ⟨fun _ => ?_, fun h => absurd h (by decide)⟩
    refine ⟨_, _, _, rfl, rfl, ?_⟩
    by_cases q1 : inA y 0 3
    · obtain ⟨w, hw0, hw, rfl⟩ := q1
      rw [inB_t ⟨w, hw0, hw, rfl⟩ (by decide)]
      first | refine ⟨fun h => absurd h (by decide), fun _ => ?_⟩ | refine ⟨fun _ => ?_, fun h => absurd h (by decide)⟩
      obtain ⟨rfl, ea, rfl⟩ := hr.1 t w ht hw rfl rfl
      refine ⟨190 + (t * 4 + w), ix_4 190 t w, by omega, ?_⟩
      have hK := hK _ ⟨R, P, S, tg, at0, nu, rfl, hrl, hhr, hsl⟩
      have e9 : R (190 + (t * 4 + w)) = vCo v (t * 4 + w) := hrl.2.2.2.2.2.2.2.2 _ (by omega)
      rw [ea, ← e9] at hK
      exact hK
    · rw [inB_f q1 (by decide) (by decide)]
      first | refine ⟨fun h => absurd h (by decide), fun _ => ?_⟩ | refine ⟨fun _ => ?_, fun h => absurd h (by decide)⟩
      obtain ⟨rfl, rfl⟩ := hr.2.2 ⟨t, ht, rfl⟩ q1
      refine ⟨_, R, P, S, sf, tg, _, _, _, at0, nu, _, [], rfl, rfl, ?_⟩
      exact hK _ ⟨R, P, S, tg, at0, nu, rfl, hrl, hhr, hsl⟩
  · rw [inIB_f q0 rfl (by decide)]
    first | refine ⟨fun h => absurd h (by decide), fun _ => ?_⟩ | refine ⟨fun _ => ?_, fun h => absurd h (by decide)⟩
    obtain ⟨rfl, rfl⟩ := hr.2.1  q0
    refine ⟨_, R, P, S, sf, tg, _, _, _, at0, nu, _, [], rfl, rfl, ?_⟩
    exact hK _ ⟨R, P, S, tg, at0, nu, rfl, hrl, hhr, hsl⟩
end MM15

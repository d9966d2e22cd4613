/-! PartitionedCacheModel: its public methods, second part. -/
section MM16
def sX7_moveWay : gS := fun av es K => ∃ c th, av = [.ref 0] ∧ inv c ∧ mW c th es ∧ ∀ es', mW (m_moveWay c) (nI 0) es' → K (some (.int (a_moveWay c))) es'
def rmX7_moveWay : Room := { frames := 4, cells := 0, slots := 0, locals := 99 }
def pX7_moveWay (K : gK) : List (Nat × gO) := [(0, oFR 7 (oALoad 0)), (1, oConst (nI 0)), (2, oPutI 7 10), (5, oFR 7 (oALoad 0)), (6, oCallV0 0 0 7 0 sX7_record), (9, oFR 7 (oALoad 0)), (10, oCallV0 0 0 7 0 sX7_move), (13, oFR 7 (oRet K 0 0))]
set_option maxRecDepth 100000 in
theorem kX7_moveWay {X : gX} {l : Launch} (hM : gM X l cX7_moveWay RX7 wsX7_moveWay rmX7_moveWay) {K : gK} (hE : gR X K 0 0 (some .int)) (hnL : X.2.2.2.2.2.2.2.2.2.2.2.2.2.2.2.2 = 1) : okL X (pX7_moveWay K) := by
  obtain ⟨p, l1, e, R, s, m, args, below, meth, c, D, cA, A, ag, ad0, Q, nL⟩ := X
  cases hnL
  refine ⟨ok_FR (ok_aload_n hM 0 dX7_moveWay_0 rfl),
    ok_iconst hM dX7_moveWay_1 rfl,
    ok_putI (C := RX7) (T := TX7) (Nf := 11) hM (fun _ h => List.mem_cons_of_mem _ (List.mem_append_right _ h)) tyX7 tyX7_ok nmX7 rfl 10 (by decide) (List.mem_of_getElem? (i := 1) rfl) rfl rfl (by decide +kernel) dX7_moveWay_2,
    ok_FR (ok_aload_n hM 0 dX7_moveWay_5 rfl),
    ok_callV0 hM (ctX7_record l) rfl gX7_moveWay_X7_record rfl rfl rfl (by decide +kernel) (by decide) dX7_moveWay_6,
    ok_FR (ok_aload_n hM 0 dX7_moveWay_9 rfl),
    ok_callV0 hM (ctX7_move l) rfl gX7_moveWay_X7_move rfl rfl rfl (by decide +kernel) (by decide) dX7_moveWay_10,
    ok_FR (ok_ret hM hE dX7_moveWay_13),
    trivial⟩
set_option maxRecDepth 100000 in
theorem ctX7_moveWay (l : Launch) : Ct l yX7_moveWay wsX7_moveWay rmX7_moveWay 0 0 false sX7_moveWay := by
  refine ct_of (own := RX7) (cc := cX7_moveWay) (maxL := 1) (ret := (some .int)) (by decide) rfl rfl (by rintro _ _ _ ⟨c, th, rfl, hinv, hw, hK⟩; exact Nat.le_of_ble_eq_true rfl) ?_
  intro X av es K hM hE hag hin hnL hsp
  obtain ⟨c, th, rfl, hinv, hw, hK⟩ := hsp
  have hf := kX7_moveWay hM hE hnL
  obtain ⟨v, n, ch, H, o, s, sf, z0, z1⟩ := c
  obtain ⟨R, P, S, tg, at0, nu, rfl, hrl, hhr, hsl⟩ := hw
  obtain ⟨ho, hs, hn, hch, hk, hkH, hk0, hk1⟩ := hinv
  refine wr_ok hf cut_nil 9 0 _ _ _ _ _ ?_
  refine ⟨s, R, P, S, sf, tg, _, _, at0, nu, _, [], rfl, hs, rfl, ?_⟩
  rw [qs_ps hs]
  refine ⟨lfv v, R, _, S, sf, tg, _, _, _, at0, nu, _, [], rfl, lfR_ok hk hrl, rl_ln hk hrl, fun q => ?_, rfl, ?_⟩
  · rw [rl_dR hrl] at q
    rw [rl_mvWR hrl]
    exact mv_some hk (lfv_ok hk) q
  · have hK := hK _ ⟨_, _, S, nF (tgt (lfv v) (gaR R)), at0, nu, rfl, rl_mv hrl (lfv v), hr_push ho hs hhr hrl, hsl⟩
    have e9 : oI (mvWR (lfv v) R) = a_moveWay (v, n, ch, H, o, s, sf, z0, z1) := congrArg oI (rl_mvWR hrl (lfv v))
    rw [← e9] at hK
    exact hK
def sX7_halveGains : gS := fun av es K => ∃ c th, av = [.ref 0] ∧ inv c ∧ mW c th es ∧ ∀ es', mW (m_halveGains c) (nI 0) es' → K (some (.int (a_halveGains c))) es'
def rmX7_halveGains : Room := { frames := 1, cells := 0, slots := 0, locals := 22 }
def pX7_halveGains (K : gK) : List (Nat × gO) := [(0, oFR 7 (oALoad 0)), (1, oConst (nI 0)), (2, oPutI 7 10), (5, oFR 7 (oALoad 0)), (6, oCallV0 0 0 7 0 sX7_record), (9, oFR 7 (oALoad 0)), (10, oCallV0 0 0 7 0 sX7_halve), (13, oFR 7 (oRet K 0 0))]
set_option maxRecDepth 100000 in
theorem kX7_halveGains {X : gX} {l : Launch} (hM : gM X l cX7_halveGains RX7 wsX7_halveGains rmX7_halveGains) {K : gK} (hE : gR X K 0 0 (some .int)) (hnL : X.2.2.2.2.2.2.2.2.2.2.2.2.2.2.2.2 = 1) : okL X (pX7_halveGains K) := by
  obtain ⟨p, l1, e, R, s, m, args, below, meth, c, D, cA, A, ag, ad0, Q, nL⟩ := X
  cases hnL
  refine ⟨ok_FR (ok_aload_n hM 0 dX7_halveGains_0 rfl),
    ok_iconst hM dX7_halveGains_1 rfl,
    ok_putI (C := RX7) (T := TX7) (Nf := 11) hM (fun _ h => List.mem_cons_of_mem _ (List.mem_append_right _ h)) tyX7 tyX7_ok nmX7 rfl 10 (by decide) (List.mem_of_getElem? (i := 1) rfl) rfl rfl (by decide +kernel) dX7_halveGains_2,
    ok_FR (ok_aload_n hM 0 dX7_halveGains_5 rfl),
    ok_callV0 hM (ctX7_record l) rfl gX7_halveGains_X7_record rfl rfl rfl (by decide +kernel) (by decide) dX7_halveGains_6,
    ok_FR (ok_aload_n hM 0 dX7_halveGains_9 rfl),
    ok_callV0 hM (ctX7_halve l) rfl gX7_halveGains_X7_halve rfl rfl rfl (by decide +kernel) (by decide) dX7_halveGains_10,
    ok_FR (ok_ret hM hE dX7_halveGains_13),
    trivial⟩
set_option maxRecDepth 100000 in
theorem ctX7_halveGains (l : Launch) : Ct l yX7_halveGains wsX7_halveGains rmX7_halveGains 0 0 false sX7_halveGains := by
  refine ct_of (own := RX7) (cc := cX7_halveGains) (maxL := 1) (ret := (some .int)) (by decide) rfl rfl (by rintro _ _ _ ⟨c, th, rfl, hinv, hw, hK⟩; exact Nat.le_of_ble_eq_true rfl) ?_
  intro X av es K hM hE hag hin hnL hsp
  obtain ⟨c, th, rfl, hinv, hw, hK⟩ := hsp
  have hf := kX7_halveGains hM hE hnL
  obtain ⟨v, n, ch, H, o, s, sf, z0, z1⟩ := c
  obtain ⟨R, P, S, tg, at0, nu, rfl, hrl, hhr, hsl⟩ := hw
  obtain ⟨ho, hs, hn, hch, hk, hkH, hk0, hk1⟩ := hinv
  refine wr_ok hf cut_nil 9 0 _ _ _ _ _ ?_
  refine ⟨s, R, P, S, sf, tg, _, _, at0, nu, _, [], rfl, hs, rfl, ?_⟩
  rw [qs_ps hs]
  refine ⟨_, R, _, rfl, rfl, ?_⟩
  have hK := hK _ ⟨_, _, S, tg, at0, nu, rfl, rl_hv hrl, hr_push ho hs hhr hrl, hsl⟩
  have e9 : sumI (hlv (gaR R)) 32 = a_halveGains (v, n, ch, H, o, s, sf, z0, z1) := sumI_cong (fun j hj => congrArg (· / nI 2) (hrl.2.2.2.2.1 j hj))
  rw [← e9] at hK
  exact hK
def sX7_clearText : gS := fun av es K => ∃ c th, av = [.ref 0] ∧ inv c ∧ mW c th es ∧ ∀ es', mW (m_clearText c) (nI 0) es' → K (some (.int (a_clearText c))) es'
def rmX7_clearText : Room := { frames := 0, cells := 0, slots := 0, locals := 0 }
def pX7_clearText (K : gK) : List (Nat × gO) := [(0, oFR 7 (oALoad 0)), (1, oConst (nI 0)), (2, oPutI 7 10), (5, oFR 7 (oALoad 0)), (6, oGet 7 7), (9, oIStore 2 1), (10, oFR 7 (oALoad 0)), (11, oConst (nI 0)), (12, oPutI 7 7), (15, oFR 7 (oILoad 1)), (16, oRet K 0 0)]
set_option maxRecDepth 100000 in
theorem kX7_clearText {X : gX} {l : Launch} (hM : gM X l cX7_clearText RX7 wsX7_clearText rmX7_clearText) {K : gK} (hE : gR X K 0 0 (some .int)) (hnL : X.2.2.2.2.2.2.2.2.2.2.2.2.2.2.2.2 = 2) : okL X (pX7_clearText K) := by
  obtain ⟨p, l1, e, R, s, m, args, below, meth, c, D, cA, A, ag, ad0, Q, nL⟩ := X
  cases hnL
  refine ⟨ok_FR (ok_aload_n hM 0 dX7_clearText_0 rfl),
    ok_iconst hM dX7_clearText_1 rfl,
    ok_putI (C := RX7) (T := TX7) (Nf := 11) hM (fun _ h => List.mem_cons_of_mem _ (List.mem_append_right _ h)) tyX7 tyX7_ok nmX7 rfl 10 (by decide) (List.mem_of_getElem? (i := 1) rfl) rfl rfl (by decide +kernel) dX7_clearText_2,
    ok_FR (ok_aload_n hM 0 dX7_clearText_5 rfl),
    ok_get (C := RX7) (T := TX7) (Nf := 11) hM (fun _ h => List.mem_cons_of_mem _ (List.mem_append_right _ h)) rfl 7 (by decide) (List.mem_of_getElem? (i := 2) rfl) rfl dX7_clearText_6,
    ok_istore_n hM 1 dX7_clearText_9 rfl,
    ok_FR (ok_aload_n hM 0 dX7_clearText_10 rfl),
    ok_iconst hM dX7_clearText_11 rfl,
    ok_putI (C := RX7) (T := TX7) (Nf := 11) hM (fun _ h => List.mem_cons_of_mem _ (List.mem_append_right _ h)) tyX7 tyX7_ok nmX7 rfl 7 (by decide) (List.mem_of_getElem? (i := 2) rfl) rfl rfl (by decide +kernel) dX7_clearText_12,
    ok_FR (ok_iload_n hM 1 dX7_clearText_15 rfl),
    ok_ret hM hE dX7_clearText_16,
    trivial⟩
set_option maxRecDepth 100000 in
theorem ctX7_clearText (l : Launch) : Ct l yX7_clearText wsX7_clearText rmX7_clearText 0 0 false sX7_clearText := by
  refine ct_of (own := RX7) (cc := cX7_clearText) (maxL := 2) (ret := (some .int)) (by decide) rfl rfl (by rintro _ _ _ ⟨c, th, rfl, hinv, hw, hK⟩; exact Nat.le_of_ble_eq_true rfl) ?_
  intro X av es K hM hE hag hin hnL hsp
  obtain ⟨c, th, rfl, hinv, hw, hK⟩ := hsp
  have hf := kX7_clearText hM hE hnL
  obtain ⟨v, n, ch, H, o, s, sf, z0, z1⟩ := c
  obtain ⟨R, P, S, tg, at0, nu, rfl, hrl, hhr, hsl⟩ := hw
  obtain ⟨ho, hs, hn, hch, hk, hkH, hk0, hk1⟩ := hinv
  refine wr_ok hf cut_nil 9 0 _ _ _ _ _ ?_
  exact hK _ ⟨R, P, S, tg, at0, nu, rfl, hrl, hhr, hsl⟩
def sX7_accesses : gS := fun av es K => ∃ c th, av = [.ref 0] ∧ inv c ∧ mW c th es ∧ ∀ es', mW c (nI 0) es' → K (some (.int (a_accesses c))) es'
def rmX7_accesses : Room := { frames := 0, cells := 0, slots := 0, locals := 0 }
def pX7_accesses (K : gK) : List (Nat × gO) := [(0, oFR 7 (oALoad 0)), (1, oConst (nI 0)), (2, oPutI 7 10), (5, oFR 7 (oALoad 0)), (6, oGet 7 0), (9, oConst (nI 189)), (12, oIALd 0), (13, oRet K 0 0)]
set_option maxRecDepth 100000 in
theorem kX7_accesses {X : gX} {l : Launch} (hM : gM X l cX7_accesses RX7 wsX7_accesses rmX7_accesses) {K : gK} (hE : gR X K 0 0 (some .int)) (hnL : X.2.2.2.2.2.2.2.2.2.2.2.2.2.2.2.2 = 1) : okL X (pX7_accesses K) := by
  obtain ⟨p, l1, e, R, s, m, args, below, meth, c, D, cA, A, ag, ad0, Q, nL⟩ := X
  cases hnL
  refine ⟨ok_FR (ok_aload_n hM 0 dX7_accesses_0 rfl),
    ok_iconst hM dX7_accesses_1 rfl,
    ok_putI (C := RX7) (T := TX7) (Nf := 11) hM (fun _ h => List.mem_cons_of_mem _ (List.mem_append_right _ h)) tyX7 tyX7_ok nmX7 rfl 10 (by decide) (List.mem_of_getElem? (i := 1) rfl) rfl rfl (by decide +kernel) dX7_accesses_2,
    ok_FR (ok_aload_n hM 0 dX7_accesses_5 rfl),
    ok_get (C := RX7) (T := TX7) (Nf := 11) hM (fun _ h => List.mem_cons_of_mem _ (List.mem_append_right _ h)) rfl 0 (by decide) (List.mem_of_getElem? (i := 2) rfl) rfl dX7_accesses_6,
    ok_sipush hM dX7_accesses_9 rfl,
    ok_iald hM dX7_accesses_12,
    ok_ret hM hE dX7_accesses_13,
    trivial⟩
set_option maxRecDepth 100000 in
theorem ctX7_accesses (l : Launch) : Ct l yX7_accesses wsX7_accesses rmX7_accesses 0 0 false sX7_accesses := by
  refine ct_of (own := RX7) (cc := cX7_accesses) (maxL := 1) (ret := (some .int)) (by decide) rfl rfl (by rintro _ _ _ ⟨c, th, rfl, hinv, hw, hK⟩; exact Nat.le_of_ble_eq_true rfl) ?_
  intro X av es K hM hE hag hin hnL hsp
  obtain ⟨c, th, rfl, hinv, hw, hK⟩ := hsp
  have hf := kX7_accesses hM hE hnL
  obtain ⟨v, n, ch, H, o, s, sf, z0, z1⟩ := c
  obtain ⟨R, P, S, tg, at0, nu, rfl, hrl, hhr, hsl⟩ := hw
  obtain ⟨ho, hs, hn, hch, hk, hkH, hk0, hk1⟩ := hinv
  refine wr_ok hf cut_nil 9 0 _ _ _ _ _ ?_
  refine ⟨189, rfl, by decide, ?_⟩
  have hK := hK _ ⟨R, P, S, tg, at0, nu, rfl, hrl, hhr, hsl⟩
  have e9 : R 189 = a_accesses (v, n, ch, H, o, s, sf, z0, z1) := hrl.2.2.2.2.2.2.2.1
  rw [← e9] at hK
  exact hK
def sX7_savedStates : gS := fun av es K => ∃ c th, av = [.ref 0] ∧ inv c ∧ mW c th es ∧ ∀ es', mW c (nI 0) es' → K (some (.int (a_savedStates c))) es'
def rmX7_savedStates : Room := { frames := 0, cells := 0, slots := 0, locals := 0 }
def pX7_savedStates (K : gK) : List (Nat × gO) := [(0, oFR 7 (oALoad 0)), (1, oConst (nI 0)), (2, oPutI 7 10), (5, oFR 7 (oALoad 0)), (6, oGet 7 4), (9, oRet K 0 0)]
set_option maxRecDepth 100000 in
theorem kX7_savedStates {X : gX} {l : Launch} (hM : gM X l cX7_savedStates RX7 wsX7_savedStates rmX7_savedStates) {K : gK} (hE : gR X K 0 0 (some .int)) (hnL : X.2.2.2.2.2.2.2.2.2.2.2.2.2.2.2.2 = 1) : okL X (pX7_savedStates K) := by
  obtain ⟨p, l1, e, R, s, m, args, below, meth, c, D, cA, A, ag, ad0, Q, nL⟩ := X
  cases hnL
  refine ⟨ok_FR (ok_aload_n hM 0 dX7_savedStates_0 rfl),
    ok_iconst hM dX7_savedStates_1 rfl,
    ok_putI (C := RX7) (T := TX7) (Nf := 11) hM (fun _ h => List.mem_cons_of_mem _ (List.mem_append_right _ h)) tyX7 tyX7_ok nmX7 rfl 10 (by decide) (List.mem_of_getElem? (i := 1) rfl) rfl rfl (by decide +kernel) dX7_savedStates_2,
    ok_FR (ok_aload_n hM 0 dX7_savedStates_5 rfl),
    ok_get (C := RX7) (T := TX7) (Nf := 11) hM (fun _ h => List.mem_cons_of_mem _ (List.mem_append_right _ h)) rfl 4 (by decide) (List.mem_of_getElem? (i := 2) rfl) rfl dX7_savedStates_6,
    ok_ret hM hE dX7_savedStates_9,
    trivial⟩
set_option maxRecDepth 100000 in
theorem ctX7_savedStates (l : Launch) : Ct l yX7_savedStates wsX7_savedStates rmX7_savedStates 0 0 false sX7_savedStates := by
  refine ct_of (own := RX7) (cc := cX7_savedStates) (maxL := 1) (ret := (some .int)) (by decide) rfl rfl (by rintro _ _ _ ⟨c, th, rfl, hinv, hw, hK⟩; exact Nat.le_of_ble_eq_true rfl) ?_
  intro X av es K hM hE hag hin hnL hsp
  obtain ⟨c, th, rfl, hinv, hw, hK⟩ := hsp
  have hf := kX7_savedStates hM hE hnL
  obtain ⟨v, n, ch, H, o, s, sf, z0, z1⟩ := c
  obtain ⟨R, P, S, tg, at0, nu, rfl, hrl, hhr, hsl⟩ := hw
  obtain ⟨ho, hs, hn, hch, hk, hkH, hk0, hk1⟩ := hinv
  refine wr_ok hf cut_nil 9 0 _ _ _ _ _ ?_
  exact hK _ ⟨R, P, S, tg, at0, nu, rfl, hrl, hhr, hsl⟩
def sX7_textLength : gS := fun av es K => ∃ c th, av = [.ref 0] ∧ inv c ∧ mW c th es ∧ ∀ es', mW c (nI 0) es' → K (some (.int (a_textLength c))) es'
def rmX7_textLength : Room := { frames := 0, cells := 0, slots := 0, locals := 0 }
def pX7_textLength (K : gK) : List (Nat × gO) := [(0, oFR 7 (oALoad 0)), (1, oConst (nI 0)), (2, oPutI 7 10), (5, oFR 7 (oALoad 0)), (6, oGet 7 7), (9, oRet K 0 0)]
set_option maxRecDepth 100000 in
theorem kX7_textLength {X : gX} {l : Launch} (hM : gM X l cX7_textLength RX7 wsX7_textLength rmX7_textLength) {K : gK} (hE : gR X K 0 0 (some .int)) (hnL : X.2.2.2.2.2.2.2.2.2.2.2.2.2.2.2.2 = 1) : okL X (pX7_textLength K) := by
  obtain ⟨p, l1, e, R, s, m, args, below, meth, c, D, cA, A, ag, ad0, Q, nL⟩ := X
  cases hnL
  refine ⟨ok_FR (ok_aload_n hM 0 dX7_textLength_0 rfl),
    ok_iconst hM dX7_textLength_1 rfl,
    ok_putI (C := RX7) (T := TX7) (Nf := 11) hM (fun _ h => List.mem_cons_of_mem _ (List.mem_append_right _ h)) tyX7 tyX7_ok nmX7 rfl 10 (by decide) (List.mem_of_getElem? (i := 1) rfl) rfl rfl (by decide +kernel) dX7_textLength_2,
    ok_FR (ok_aload_n hM 0 dX7_textLength_5 rfl),
    ok_get (C := RX7) (T := TX7) (Nf := 11) hM (fun _ h => List.mem_cons_of_mem _ (List.mem_append_right _ h)) rfl 7 (by decide) (List.mem_of_getElem? (i := 2) rfl) rfl dX7_textLength_6,
    ok_ret hM hE dX7_textLength_9,
    trivial⟩
set_option maxRecDepth 100000 in
theorem ctX7_textLength (l : Launch) : Ct l yX7_textLength wsX7_textLength rmX7_textLength 0 0 false sX7_textLength := by
  refine ct_of (own := RX7) (cc := cX7_textLength) (maxL := 1) (ret := (some .int)) (by decide) rfl rfl (by rintro _ _ _ ⟨c, th, rfl, hinv, hw, hK⟩; exact Nat.le_of_ble_eq_true rfl) ?_
  intro X av es K hM hE hag hin hnL hsp
  obtain ⟨c, th, rfl, hinv, hw, hK⟩ := hsp
  have hf := kX7_textLength hM hE hnL
  obtain ⟨v, n, ch, H, o, s, sf, z0, z1⟩ := c
  obtain ⟨R, P, S, tg, at0, nu, rfl, hrl, hhr, hsl⟩ := hw
  obtain ⟨ho, hs, hn, hch, hk, hkH, hk0, hk1⟩ := hinv
  refine wr_ok hf cut_nil 9 0 _ _ _ _ _ ?_
  exact hK _ ⟨R, P, S, tg, at0, nu, rfl, hrl, hhr, hsl⟩
def sX7_errorPosition : gS := fun av es K => ∃ c th, av = [.ref 0] ∧ inv c ∧ mW c th es ∧ ∀ es', mW c (nI 0) es' → K (some (.int (a_errorPosition c))) es'
def rmX7_errorPosition : Room := { frames := 5, cells := 0, slots := 0, locals := 109 }
def pX7_errorPosition (K : gK) : List (Nat × gO) := [(0, oFR 7 (oALoad 0)), (1, oConst (nI 0)), (2, oPutI 7 10), (5, oFR 7 (oALoad 0)), (6, oCallV0 0 0 7 0 sX7_isValid), (9, oFR 7 (oIf_eq 16)), (12, oConst (-1)), (13, oGoto 20), (16, oALoad 0), (17, oGet 7 8), (20, oRet K 0 0)]
set_option maxRecDepth 100000 in
theorem kX7_errorPosition {X : gX} {l : Launch} (hM : gM X l cX7_errorPosition RX7 wsX7_errorPosition rmX7_errorPosition) {K : gK} (hE : gR X K 0 0 (some .int)) (hnL : X.2.2.2.2.2.2.2.2.2.2.2.2.2.2.2.2 = 1) : okL X (pX7_errorPosition K) := by
  obtain ⟨p, l1, e, R, s, m, args, below, meth, c, D, cA, A, ag, ad0, Q, nL⟩ := X
  cases hnL
  refine ⟨ok_FR (ok_aload_n hM 0 dX7_errorPosition_0 rfl),
    ok_iconst hM dX7_errorPosition_1 rfl,
    ok_putI (C := RX7) (T := TX7) (Nf := 11) hM (fun _ h => List.mem_cons_of_mem _ (List.mem_append_right _ h)) tyX7 tyX7_ok nmX7 rfl 10 (by decide) (List.mem_of_getElem? (i := 1) rfl) rfl rfl (by decide +kernel) dX7_errorPosition_2,
    ok_FR (ok_aload_n hM 0 dX7_errorPosition_5 rfl),
    ok_callV0 hM (ctX7_isValid l) rfl gX7_errorPosition_X7_isValid rfl rfl rfl (by decide +kernel) (by decide) dX7_errorPosition_6,
    ok_FR (ok_if_eq hM 16 dX7_errorPosition_9 (by decide)),
    ok_iconst hM dX7_errorPosition_12 rfl,
    ok_goto hM 20 dX7_errorPosition_13 (by decide),
    ok_aload_n hM 0 dX7_errorPosition_16 rfl,
    ok_get (C := RX7) (T := TX7) (Nf := 11) hM (fun _ h => List.mem_cons_of_mem _ (List.mem_append_right _ h)) rfl 8 (by decide) (List.mem_of_getElem? (i := 2) rfl) rfl dX7_errorPosition_17,
    ok_ret hM hE dX7_errorPosition_20,
    trivial⟩
set_option maxRecDepth 100000 in
theorem ctX7_errorPosition (l : Launch) : Ct l yX7_errorPosition wsX7_errorPosition rmX7_errorPosition 0 0 false sX7_errorPosition := by
  refine ct_of (own := RX7) (cc := cX7_errorPosition) (maxL := 1) (ret := (some .int)) (by decide) rfl rfl (by rintro _ _ _ ⟨c, th, rfl, hinv, hw, hK⟩; exact Nat.le_of_ble_eq_true rfl) ?_
  intro X av es K hM hE hag hin hnL hsp
  obtain ⟨c, th, rfl, hinv, hw, hK⟩ := hsp
  have hf := kX7_errorPosition hM hE hnL
  obtain ⟨v, n, ch, H, o, s, sf, z0, z1⟩ := c
  obtain ⟨R, P, S, tg, at0, nu, rfl, hrl, hhr, hsl⟩ := hw
  obtain ⟨ho, hs, hn, hch, hk, hkH, hk0, hk1⟩ := hinv
  refine wr_ok hf cut_nil 9 0 _ _ _ _ _ ?_
  refine ⟨n, ch, R, P, S, sf, tg, _, at0, nu, _, [], rfl, hn, fun j _ => hch j, rfl, fun hf0 q nu' => ?_, fun q nu' hq hf0 => ?_⟩
  · refine ⟨fun h => absurd h (by decide), fun _ => ?_⟩
    have hK := hK _ ⟨R, P, S, tg, q, nu', rfl, hrl, hhr, hsl⟩
    have e9 : oI none = a_errorPosition (v, n, ch, H, o, s, sf, z0, z1) := congrArg oI hf0.symm
    rw [← e9] at hK
    exact hK
  · refine ⟨fun _ => ?_, fun h => absurd rfl h⟩
    have hK := hK _ ⟨R, P, S, tg, nI q, nu', rfl, hrl, hhr, hsl⟩
    have e9 : oI (some q) = a_errorPosition (v, n, ch, H, o, s, sf, z0, z1) := congrArg oI hf0.symm
    rw [← e9] at hK
    exact hK
def sX7_movesLeft : gS := fun av es K => ∃ c th, av = [.ref 0] ∧ inv c ∧ mW c th es ∧ ∀ es', mW c (nI 0) es' → K (some (.int (a_movesLeft c))) es'
def rmX7_movesLeft : Room := { frames := 3, cells := 0, slots := 0, locals := 74 }
def pX7_movesLeft (K : gK) : List (Nat × gO) := [(0, oFR 7 (oALoad 0)), (1, oConst (nI 0)), (2, oPutI 7 10), (5, oFR 7 (oALoad 0)), (6, oCallV0 0 0 7 0 sX7_findTargets), (9, oConst (nI 0)), (10, oFR 7 (oIStore 3 1)), (11, oConst (nI 0)), (12, oFR 7 (oIStore 3 2)), (13, oFR 7 (oILoad 2)), (14, oConst (nI 4)), (15, oICmp_ge 44), (18, oILoad 1), (19, oALoad 0), (20, oILoad 2), (21, oCallV0 0 0 7 1 sX7_deficit), (24, oFR 7 (oIf_le 35)), (27, oALoad 0), (28, oILoad 2), (29, oCallV0 0 0 7 1 sX7_deficit), (32, oGoto 36), (35, oConst (nI 0)), (36, oAdd), (37, oFR 7 (oIStore 3 1)), (38, oFR 7 (oIInc 3 2 (nI 1))), (41, oGoto 13), (44, oFR 7 (oILoad 1)), (45, oRet K 0 0)]
set_option maxRecDepth 100000 in
theorem kX7_movesLeft {X : gX} {l : Launch} (hM : gM X l cX7_movesLeft RX7 wsX7_movesLeft rmX7_movesLeft) {K : gK} (hE : gR X K 0 0 (some .int)) (hnL : X.2.2.2.2.2.2.2.2.2.2.2.2.2.2.2.2 = 3) : okL X (pX7_movesLeft K) := by
  obtain ⟨p, l1, e, R, s, m, args, below, meth, c, D, cA, A, ag, ad0, Q, nL⟩ := X
  cases hnL
  refine ⟨ok_FR (ok_aload_n hM 0 dX7_movesLeft_0 rfl),
    ok_iconst hM dX7_movesLeft_1 rfl,
    ok_putI (C := RX7) (T := TX7) (Nf := 11) hM (fun _ h => List.mem_cons_of_mem _ (List.mem_append_right _ h)) tyX7 tyX7_ok nmX7 rfl 10 (by decide) (List.mem_of_getElem? (i := 1) rfl) rfl rfl (by decide +kernel) dX7_movesLeft_2,
    ok_FR (ok_aload_n hM 0 dX7_movesLeft_5 rfl),
    ok_callV0 hM (ctX7_findTargets l) rfl gX7_movesLeft_X7_findTargets rfl rfl rfl (by decide +kernel) (by decide) dX7_movesLeft_6,
    ok_iconst hM dX7_movesLeft_9 rfl,
    ok_FR (ok_istore_n hM 1 dX7_movesLeft_10 rfl),
    ok_iconst hM dX7_movesLeft_11 rfl,
    ok_FR (ok_istore_n hM 2 dX7_movesLeft_12 rfl),
    ok_FR (ok_iload_n hM 2 dX7_movesLeft_13 rfl),
    ok_iconst hM dX7_movesLeft_14 rfl,
    ok_icmp_ge hM 44 dX7_movesLeft_15 (by decide),
    ok_iload_n hM 1 dX7_movesLeft_18 rfl,
    ok_aload_n hM 0 dX7_movesLeft_19 rfl,
    ok_iload_n hM 2 dX7_movesLeft_20 rfl,
    ok_callV0 hM (ctX7_deficit l) rfl gX7_movesLeft_X7_deficit rfl rfl rfl (by decide +kernel) (by decide) dX7_movesLeft_21,
    ok_FR (ok_if_le hM 35 dX7_movesLeft_24 (by decide)),
    ok_aload_n hM 0 dX7_movesLeft_27 rfl,
    ok_iload_n hM 2 dX7_movesLeft_28 rfl,
    ok_callV0 hM (ctX7_deficit l) rfl gX7_movesLeft_X7_deficit rfl rfl rfl (by decide +kernel) (by decide) dX7_movesLeft_29,
    ok_goto hM 36 dX7_movesLeft_32 (by decide),
    ok_iconst hM dX7_movesLeft_35 rfl,
    ok_iadd hM dX7_movesLeft_36,
    ok_FR (ok_istore_n hM 1 dX7_movesLeft_37 rfl),
    ok_FR (ok_iinc hM 2 dX7_movesLeft_38 rfl),
    ok_goto hM 13 dX7_movesLeft_41 (by decide),
    ok_FR (ok_iload_n hM 1 dX7_movesLeft_44 rfl),
    ok_ret hM hE dX7_movesLeft_45,
    trivial⟩
set_option maxRecDepth 100000 in
theorem ctX7_movesLeft (l : Launch) : Ct l yX7_movesLeft wsX7_movesLeft rmX7_movesLeft 0 0 false sX7_movesLeft := by
  refine ct_of (own := RX7) (cc := cX7_movesLeft) (maxL := 3) (ret := (some .int)) (by decide) rfl rfl (by rintro _ _ _ ⟨c, th, rfl, hinv, hw, hK⟩; exact Nat.le_of_ble_eq_true rfl) ?_
  intro X av es K hM hE hag hin hnL hsp
  obtain ⟨c, th, rfl, hinv, hw, hK⟩ := hsp
  have hf := kX7_movesLeft hM hE hnL
  obtain ⟨v, n, ch, H, o, s, sf, z0, z1⟩ := c
  obtain ⟨R, P, S, tg, at0, nu, rfl, hrl, hhr, hsl⟩ := hw
  obtain ⟨ho, hs, hn, hch, hk, hkH, hk0, hk1⟩ := hinv
  refine g_with (X := X) 13 [0, 1, 2] (fun μ vs es k m => ∃ i : Nat, μ = 4 - i ∧ i ≤ 4 ∧ vs = [.ref 0, .int (sumI (mxD (lfv v) v) i), .int (nI i)] ∧ es = mdW R P S sf (nF (tgt (lfv v) (gaR R))) (nF ch) (nI s) (nI n) at0 nu (nI 0) [] ∧ k = 0 ∧ m = 0) cut_nil (fun μ hc vs es k m hI => ?_) (fun hc => ?_)
  · obtain ⟨i, rfl, hi, rfl, rfl, rfl, rfl⟩ := hI
    refine g_go hf hc 9 ?_
    refine ⟨fun h => ?_, fun h => ?_⟩
    · have h4 : i = 4 := by
        rw [nI_leI (by decide) (by omega)] at h
        omega
      subst h4
      exact hK _ ⟨R, P, S, _, at0, nu, rfl, hrl, hhr, hsl⟩
    · have h4 : i < 4 := by
        rw [nI_leI (by decide) (by omega)] at h
        omega
      have e1 : nF (tgt (lfv v) (gaR R)) i - nI (fOwn R (nI i)) = mvD (lfv v) v i := by
        rw [rl_tgt hrl, rl_own hrl]
        rfl
      refine ⟨_, i, R, P, S, sf, _, _, _, _, at0, nu, _, [], rfl, rfl, h4, rfl, ?_⟩
      rw [e1]
      refine ⟨fun h5 => ?_, fun h5 => ?_⟩
      · refine ⟨4 - (i + 1), by omega, i + 1, rfl, by omega, ?_, rfl, rfl, rfl⟩
        have e2 : mxD (lfv v) v i = nI 0 := by
          unfold mxD
          by_cases c : mvD (lfv v) v i < nI 0
          · rw [if_pos c]
          · rw [if_neg c]
            exact Int32.le_antisymm h5 (Int32.not_lt.mp c)
        have e3 : sumI (mxD (lfv v) v) (i + 1) = sumI (mxD (lfv v) v) i + nI 0 := by
          show sumI (mxD (lfv v) v) i + mxD (lfv v) v i = _
          rw [e2]
        rw [e3, ← nI_add]
      · refine ⟨_, i, R, P, S, sf, _, _, _, _, at0, nu, _, [], rfl, rfl, h4, rfl, ?_⟩
        rw [e1]
        refine ⟨4 - (i + 1), by omega, i + 1, rfl, by omega, ?_, rfl, rfl, rfl⟩
        have h5 : ¬ mvD (lfv v) v i ≤ nI 0 := by first | exact h5 | exact Int32.not_le.mpr h5
        have e2 : mxD (lfv v) v i = mvD (lfv v) v i := by
          unfold mxD
          rw [if_neg (fun z => h5 (Int32.le_of_lt z))]
        have e3 : sumI (mxD (lfv v) v) (i + 1) = sumI (mxD (lfv v) v) i + mvD (lfv v) v i := by
          show sumI (mxD (lfv v) v) i + mxD (lfv v) v i = _
          rw [e2]
        rw [e3, ← nI_add]
  · refine wr_ok hf hc 9 0 _ _ _ _ _ ?_
    refine ⟨lfv v, R, P, S, sf, tg, _, _, _, at0, nu, _, [], rfl, lfR_ok hk hrl, rfl, ?_⟩
    exact ⟨4, 0, rfl, by omega, rfl, rfl, rfl, rfl⟩
def sX7_totalUtility : gS := fun av es K => ∃ c th, av = [.ref 0] ∧ inv c ∧ mW c th es ∧ ∀ es', mW c (nI 0) es' → K (some (.int (a_totalUtility c))) es'
def rmX7_totalUtility : Room := { frames := 1, cells := 0, slots := 0, locals := 24 }
def pX7_totalUtility (K : gK) : List (Nat × gO) := [(0, oFR 7 (oALoad 0)), (1, oConst (nI 0)), (2, oPutI 7 10), (5, oConst (nI 0)), (6, oFR 7 (oIStore 3 1)), (7, oConst (nI 0)), (8, oFR 7 (oIStore 3 2)), (9, oFR 7 (oILoad 2)), (10, oConst (nI 4)), (11, oICmp_ge 33), (14, oILoad 1), (15, oALoad 0), (16, oILoad 2), (17, oALoad 0), (18, oILoad 2), (19, oCallV0 0 0 7 1 sX7_owned), (22, oFR 7 (oCallV0 0 0 7 2 sX7_gained)), (25, oAdd), (26, oFR 7 (oIStore 3 1)), (27, oFR 7 (oIInc 3 2 (nI 1))), (30, oGoto 9), (33, oFR 7 (oILoad 1)), (34, oRet K 0 0)]
set_option maxRecDepth 100000 in
theorem kX7_totalUtility {X : gX} {l : Launch} (hM : gM X l cX7_totalUtility RX7 wsX7_totalUtility rmX7_totalUtility) {K : gK} (hE : gR X K 0 0 (some .int)) (hnL : X.2.2.2.2.2.2.2.2.2.2.2.2.2.2.2.2 = 3) : okL X (pX7_totalUtility K) := by
  obtain ⟨p, l1, e, R, s, m, args, below, meth, c, D, cA, A, ag, ad0, Q, nL⟩ := X
  cases hnL
  refine ⟨ok_FR (ok_aload_n hM 0 dX7_totalUtility_0 rfl),
    ok_iconst hM dX7_totalUtility_1 rfl,
    ok_putI (C := RX7) (T := TX7) (Nf := 11) hM (fun _ h => List.mem_cons_of_mem _ (List.mem_append_right _ h)) tyX7 tyX7_ok nmX7 rfl 10 (by decide) (List.mem_of_getElem? (i := 1) rfl) rfl rfl (by decide +kernel) dX7_totalUtility_2,
    ok_iconst hM dX7_totalUtility_5 rfl,
    ok_FR (ok_istore_n hM 1 dX7_totalUtility_6 rfl),
    ok_iconst hM dX7_totalUtility_7 rfl,
    ok_FR (ok_istore_n hM 2 dX7_totalUtility_8 rfl),
    ok_FR (ok_iload_n hM 2 dX7_totalUtility_9 rfl),
    ok_iconst hM dX7_totalUtility_10 rfl,
    ok_icmp_ge hM 33 dX7_totalUtility_11 (by decide),
    ok_iload_n hM 1 dX7_totalUtility_14 rfl,
    ok_aload_n hM 0 dX7_totalUtility_15 rfl,
    ok_iload_n hM 2 dX7_totalUtility_16 rfl,
    ok_aload_n hM 0 dX7_totalUtility_17 rfl,
    ok_iload_n hM 2 dX7_totalUtility_18 rfl,
    ok_callV0 hM (ctX7_owned l) rfl gX7_totalUtility_X7_owned rfl rfl rfl (by decide +kernel) (by decide) dX7_totalUtility_19,
    ok_FR (ok_callV0 hM (ctX7_gained l) rfl gX7_totalUtility_X7_gained rfl rfl rfl (by decide +kernel) (by decide) dX7_totalUtility_22),
    ok_iadd hM dX7_totalUtility_25,
    ok_FR (ok_istore_n hM 1 dX7_totalUtility_26 rfl),
    ok_FR (ok_iinc hM 2 dX7_totalUtility_27 rfl),
    ok_goto hM 9 dX7_totalUtility_30 (by decide),
    ok_FR (ok_iload_n hM 1 dX7_totalUtility_33 rfl),
    ok_ret hM hE dX7_totalUtility_34,
    trivial⟩
set_option maxRecDepth 100000 in
theorem ctX7_totalUtility (l : Launch) : Ct l yX7_totalUtility wsX7_totalUtility rmX7_totalUtility 0 0 false sX7_totalUtility := by
  refine ct_of (own := RX7) (cc := cX7_totalUtility) (maxL := 3) (ret := (some .int)) (by decide) rfl rfl (by rintro _ _ _ ⟨c, th, rfl, hinv, hw, hK⟩; exact Nat.le_of_ble_eq_true rfl) ?_
  intro X av es K hM hE hag hin hnL hsp
  obtain ⟨c, th, rfl, hinv, hw, hK⟩ := hsp
  have hf := kX7_totalUtility hM hE hnL
  obtain ⟨v, n, ch, H, o, s, sf, z0, z1⟩ := c
  obtain ⟨R, P, S, tg, at0, nu, rfl, hrl, hhr, hsl⟩ := hw
  obtain ⟨ho, hs, hn, hch, hk, hkH, hk0, hk1⟩ := hinv
  refine g_with (X := X) 9 [0, 1, 2] (fun μ vs es k m => ∃ i : Nat, μ = 4 - i ∧ i ≤ 4 ∧ vs = [.ref 0, .int (sumI (tuD v) i), .int (nI i)] ∧ es = mdW R P S sf tg (nF ch) (nI s) (nI n) at0 nu (nI 0) [] ∧ k = 0 ∧ m = 0) cut_nil (fun μ hc vs es k m hI => ?_) (fun hc => ?_)
  · obtain ⟨i, rfl, hi, rfl, rfl, rfl, rfl⟩ := hI
    refine g_go hf hc 9 ?_
    refine ⟨fun h => ?_, fun h => ?_⟩
    · have h4 : i = 4 := by
        rw [nI_leI (by decide) (by omega)] at h
        omega
      subst h4
      exact hK _ ⟨R, P, S, _, at0, nu, rfl, hrl, hhr, hsl⟩
    · have h4 : i < 4 := by
        rw [nI_leI (by decide) (by omega)] at h
        omega
      refine ⟨_, _, R, _, rfl, rfl, ?_⟩
      rw [rl_own hrl]
      refine ⟨_, _, i, fOwn (vOw v) (nI i), _, R, _, rfl, rfl, rfl, h4, cnt_le _ 8, rfl, ?_⟩
      refine ⟨4 - (i + 1), by omega, i + 1, rfl, by omega, ?_, rfl, rfl, rfl⟩
      have e2 : sumI (fun p => gaR R (i * 8 + p)) (fOwn (vOw v) (nI i)) = tuD v i := rl_sum hrl h4 (cnt_le _ 8)
      have e3 : sumI (tuD v) (i + 1) = sumI (tuD v) i + tuD v i := rfl
      rw [e3, ← e2, ← nI_add]
  · refine wr_ok hf hc 9 0 _ _ _ _ _ ?_
    exact ⟨4, 0, rfl, by omega, rfl, rfl, rfl, rfl⟩
def sX7_appendText : gS := fun av es K => ∃ c th x k ans c', av = [.ref 0, .int x] ∧ inv c ∧ mW c th es ∧ r_appendText c x k ans c' ∧ ∀ es', mW c' (nI k) es' → K (some (.int (an k ans))) es'
def rmX7_appendText : Room := { frames := 1, cells := 0, slots := 0, locals := 22 }
def pX7_appendText (K : gK) : List (Nat × gO) := [(0, oFR 7 (oALoad 0)), (1, oConst (nI 0)), (2, oPutI 7 10), (5, oFR 7 (oILoad 1)), (6, oConst (nI 32)), (8, oConst (nI 126)), (10, oSR 7 0 0 3 [] sX7_in), (13, oFR 7 (oIf_ne 22)), (16, oALoad 0), (17, oConst (nI 1)), (18, oCallV0 0 0 7 1 sX7_fails), (21, oFR 7 (oRet K 0 0)), (22, oALoad 0), (23, oGet 7 7), (26, oConst (nI 80)), (28, oICmp_ne 37), (31, oALoad 0), (32, oConst (nI 2)), (33, oCallV0 0 0 7 1 sX7_fails), (36, oFR 7 (oRet K 0 0)), (37, oALoad 0), (38, oGet 7 6), (41, oALoad 0), (42, oGet 7 7), (45, oILoad 1), (46, oIASt), (47, oFR 7 (oALoad 0)), (48, oDup), (49, oGet 7 7), (52, oConst (nI 1)), (53, oAdd), (54, oPutI 7 7), (57, oFR 7 (oALoad 0)), (58, oGet 7 7), (61, oRet K 0 0)]
set_option maxRecDepth 100000 in
theorem kX7_appendText {X : gX} {l : Launch} (hM : gM X l cX7_appendText RX7 wsX7_appendText rmX7_appendText) {K : gK} (hE : gR X K 0 0 (some .int)) (hnL : X.2.2.2.2.2.2.2.2.2.2.2.2.2.2.2.2 = 2) : okL X (pX7_appendText K) := by
  obtain ⟨p, l1, e, R, s, m, args, below, meth, c, D, cA, A, ag, ad0, Q, nL⟩ := X
  cases hnL
  refine ⟨ok_FR (ok_aload_n hM 0 dX7_appendText_0 rfl),
    ok_iconst hM dX7_appendText_1 rfl,
    ok_putI (C := RX7) (T := TX7) (Nf := 11) hM (fun _ h => List.mem_cons_of_mem _ (List.mem_append_right _ h)) tyX7 tyX7_ok nmX7 rfl 10 (by decide) (List.mem_of_getElem? (i := 1) rfl) rfl rfl (by decide +kernel) dX7_appendText_2,
    ok_FR (ok_iload_n hM 1 dX7_appendText_5 rfl),
    ok_bipush hM dX7_appendText_6 rfl,
    ok_bipush hM dX7_appendText_8 rfl,
    ok_SR (ok_callS hM [] (ctX7_in l) rfl gX7_appendText_X7_in rfl rfl rfl (by decide +kernel) (by decide) dX7_appendText_10),
    ok_FR (ok_if_ne hM 22 dX7_appendText_13 (by decide)),
    ok_aload_n hM 0 dX7_appendText_16 rfl,
    ok_iconst hM dX7_appendText_17 rfl,
    ok_callV0 hM (ctX7_fails l) rfl gX7_appendText_X7_fails rfl rfl rfl (by decide +kernel) (by decide) dX7_appendText_18,
    ok_FR (ok_ret hM hE dX7_appendText_21),
    ok_aload_n hM 0 dX7_appendText_22 rfl,
    ok_get (C := RX7) (T := TX7) (Nf := 11) hM (fun _ h => List.mem_cons_of_mem _ (List.mem_append_right _ h)) rfl 7 (by decide) (List.mem_of_getElem? (i := 2) rfl) rfl dX7_appendText_23,
    ok_bipush hM dX7_appendText_26 rfl,
    ok_icmp_ne hM 37 dX7_appendText_28 (by decide),
    ok_aload_n hM 0 dX7_appendText_31 rfl,
    ok_iconst hM dX7_appendText_32 rfl,
    ok_callV0 hM (ctX7_fails l) rfl gX7_appendText_X7_fails rfl rfl rfl (by decide +kernel) (by decide) dX7_appendText_33,
    ok_FR (ok_ret hM hE dX7_appendText_36),
    ok_aload_n hM 0 dX7_appendText_37 rfl,
    ok_get (C := RX7) (T := TX7) (Nf := 11) hM (fun _ h => List.mem_cons_of_mem _ (List.mem_append_right _ h)) rfl 6 (by decide) (List.mem_of_getElem? (i := 3) rfl) rfl dX7_appendText_38,
    ok_aload_n hM 0 dX7_appendText_41 rfl,
    ok_get (C := RX7) (T := TX7) (Nf := 11) hM (fun _ h => List.mem_cons_of_mem _ (List.mem_append_right _ h)) rfl 7 (by decide) (List.mem_of_getElem? (i := 2) rfl) rfl dX7_appendText_42,
    ok_iload_n hM 1 dX7_appendText_45 rfl,
    ok_iast hM dX7_appendText_46,
    ok_FR (ok_aload_n hM 0 dX7_appendText_47 rfl),
    ok_dup hM dX7_appendText_48,
    ok_get (C := RX7) (T := TX7) (Nf := 11) hM (fun _ h => List.mem_cons_of_mem _ (List.mem_append_right _ h)) rfl 7 (by decide) (List.mem_of_getElem? (i := 2) rfl) rfl dX7_appendText_49,
    ok_iconst hM dX7_appendText_52 rfl,
    ok_iadd hM dX7_appendText_53,
    ok_putI (C := RX7) (T := TX7) (Nf := 11) hM (fun _ h => List.mem_cons_of_mem _ (List.mem_append_right _ h)) tyX7 tyX7_ok nmX7 rfl 7 (by decide) (List.mem_of_getElem? (i := 2) rfl) rfl rfl (by decide +kernel) dX7_appendText_54,
    ok_FR (ok_aload_n hM 0 dX7_appendText_57 rfl),
    ok_get (C := RX7) (T := TX7) (Nf := 11) hM (fun _ h => List.mem_cons_of_mem _ (List.mem_append_right _ h)) rfl 7 (by decide) (List.mem_of_getElem? (i := 2) rfl) rfl dX7_appendText_58,
    ok_ret hM hE dX7_appendText_61,
    trivial⟩
set_option maxRecDepth 100000 in
theorem ctX7_appendText (l : Launch) : Ct l yX7_appendText wsX7_appendText rmX7_appendText 0 0 false sX7_appendText := by
  refine ct_of (own := RX7) (cc := cX7_appendText) (maxL := 2) (ret := (some .int)) (by decide) rfl rfl (by rintro _ _ _ ⟨c, th, x, k, ans, c', rfl, hinv, hw, hr, hK⟩; exact Nat.le_of_ble_eq_true rfl) ?_
  intro X av es K hM hE hag hin hnL hsp
  obtain ⟨c, th, x, k, ans, c', rfl, hinv, hw, hr, hK⟩ := hsp
  have hf := kX7_appendText hM hE hnL
  obtain ⟨v, n, ch, H, o, s, sf, z0, z1⟩ := c
  obtain ⟨R, P, S, tg, at0, nu, rfl, hrl, hhr, hsl⟩ := hw
  obtain ⟨ho, hs, hn, hch, hk, hkH, hk0, hk1⟩ := hinv
  refine wr_ok hf cut_nil 9 0 _ _ _ _ _ ?_
  refine ⟨_, _, _, rfl, rfl, ?_⟩
  by_cases q0 : inA x 32 126
  · rw [inB_t q0 (by decide)]
    first | refine ⟨fun h => absurd h (by decide), fun _ => ?_⟩ | refine ⟨fun _ => ?_, fun h => absurd h (by decide)⟩
    refine ⟨fun h => ?_, fun h => ?_⟩
    · have h8 : n < 80 := by
        by_cases c : n = 80
        · exact absurd (by rw [c]) h
        · omega
      obtain ⟨a, ha0, ha, rfl⟩ := q0
      obtain ⟨rfl, ea, rfl⟩ := hr.1 a ha0 ha h8 rfl
      refine ⟨n, rfl, h8, ?_⟩
      have hK := hK _ ⟨R, P, S, tg, at0, nu, rfl, hrl, hhr, hsl⟩
      rw [ea, ← chU_fun, ← nI_add] at hK
      exact hK
    · have h8 : n = 80 := nI_inj h (by omega) (by decide)
      obtain ⟨rfl, rfl⟩ := hr.2.2 q0 (by omega)
      refine ⟨_, R, P, S, sf, tg, _, _, _, at0, nu, _, [], rfl, rfl, ?_⟩
      exact hK _ ⟨R, P, S, tg, at0, nu, rfl, hrl, hhr, hsl⟩
  · rw [inB_f q0 (by decide) (by decide)]
    first | refine ⟨fun h => absurd h (by decide), fun _ => ?_⟩ | refine ⟨fun _ => ?_, fun h => absurd h (by decide)⟩
    obtain ⟨rfl, rfl⟩ := hr.2.1 q0
    refine ⟨_, R, P, S, sf, tg, _, _, _, at0, nu, _, [], rfl, rfl, ?_⟩
    exact hK _ ⟨R, P, S, tg, at0, nu, rfl, hrl, hhr, hsl⟩
def sX7_monitored : gS := fun av es K => ∃ c th x y z k ans c', av = [.ref 0, .int x, .int y, .int z] ∧ inv c ∧ mW c th es ∧ r_monitored c x y z k ans c' ∧ ∀ es', mW c' (nI k) es' → K (some (.int (an k ans))) es'
def rmX7_monitored : Room := { frames := 1, cells := 0, slots := 0, locals := 22 }
def pX7_monitored (K : gK) : List (Nat × gO) := [(0, oFR 7 (oALoad 0)), (1, oConst (nI 0)), (2, oPutI 7 10), (5, oFR 7 (oILoad 1)), (6, oConst (nI 0)), (7, oConst (nI 3)), (8, oSR 7 0 0 3 [] sX7_in), (11, oFR 7 (oIf_eq 33)), (14, oILoad 2), (15, oIf_eq 23), (18, oILoad 2), (19, oConst (nI 2)), (20, oICmp_ne 33), (23, oILoad 3), (24, oConst (nI 0)), (25, oConst (nI 7)), (27, oSR 7 0 0 3 [] sX7_in), (30, oFR 7 (oIf_ne 39)), (33, oALoad 0), (34, oConst (nI 1)), (35, oCallV0 0 0 7 1 sX7_fails), (38, oFR 7 (oRet K 0 0)), (39, oConst (nI 2)), (40, oILoad 1), (41, oMul), (42, oILoad 2), (43, oConst (nI 2)), (44, oDiv), (45, oAdd), (46, oIStore 5 4), (48, oFR 7 (oILoad 3)), (49, oALoad 0), (50, oGet 7 0), (53, oConst (nI 72)), (55, oILoad 4), (57, oAdd), (58, oIALd 0), (59, oICmp_ge 80), (62, oALoad 0), (63, oGet 7 0), (66, oConst (nI 80)), (68, oConst (nI 9)), (70, oILoad 4), (72, oMul), (73, oAdd), (74, oILoad 3), (75, oAdd), (76, oIALd 0), (77, oGoto 81), (80, oConst (-1)), (81, oRet K 0 0)]
set_option maxRecDepth 100000 in
theorem kX7_monitored {X : gX} {l : Launch} (hM : gM X l cX7_monitored RX7 wsX7_monitored rmX7_monitored) {K : gK} (hE : gR X K 0 0 (some .int)) (hnL : X.2.2.2.2.2.2.2.2.2.2.2.2.2.2.2.2 = 5) : okL X (pX7_monitored K) := by
  obtain ⟨p, l1, e, R, s, m, args, below, meth, c, D, cA, A, ag, ad0, Q, nL⟩ := X
  cases hnL
  refine ⟨ok_FR (ok_aload_n hM 0 dX7_monitored_0 rfl),
    ok_iconst hM dX7_monitored_1 rfl,
    ok_putI (C := RX7) (T := TX7) (Nf := 11) hM (fun _ h => List.mem_cons_of_mem _ (List.mem_append_right _ h)) tyX7 tyX7_ok nmX7 rfl 10 (by decide) (List.mem_of_getElem? (i := 1) rfl) rfl rfl (by decide +kernel) dX7_monitored_2,
    ok_FR (ok_iload_n hM 1 dX7_monitored_5 rfl),
    ok_iconst hM dX7_monitored_6 rfl,
    ok_iconst hM dX7_monitored_7 rfl,
    ok_SR (ok_callS hM [] (ctX7_in l) rfl gX7_monitored_X7_in rfl rfl rfl (by decide +kernel) (by decide) dX7_monitored_8),
    ok_FR (ok_if_eq hM 33 dX7_monitored_11 (by decide)),
    ok_iload_n hM 2 dX7_monitored_14 rfl,
    ok_if_eq hM 23 dX7_monitored_15 (by decide),
    ok_iload_n hM 2 dX7_monitored_18 rfl,
    ok_iconst hM dX7_monitored_19 rfl,
    ok_icmp_ne hM 33 dX7_monitored_20 (by decide),
    ok_iload_n hM 3 dX7_monitored_23 rfl,
    ok_iconst hM dX7_monitored_24 rfl,
    ok_bipush hM dX7_monitored_25 rfl,
    ok_SR (ok_callS hM [] (ctX7_in l) rfl gX7_monitored_X7_in rfl rfl rfl (by decide +kernel) (by decide) dX7_monitored_27),
    ok_FR (ok_if_ne hM 39 dX7_monitored_30 (by decide)),
    ok_aload_n hM 0 dX7_monitored_33 rfl,
    ok_iconst hM dX7_monitored_34 rfl,
    ok_callV0 hM (ctX7_fails l) rfl gX7_monitored_X7_fails rfl rfl rfl (by decide +kernel) (by decide) dX7_monitored_35,
    ok_FR (ok_ret hM hE dX7_monitored_38),
    ok_iconst hM dX7_monitored_39 rfl,
    ok_iload_n hM 1 dX7_monitored_40 rfl,
    ok_imul hM dX7_monitored_41,
    ok_iload_n hM 2 dX7_monitored_42 rfl,
    ok_iconst hM dX7_monitored_43 rfl,
    ok_idiv hM dX7_monitored_44,
    ok_iadd hM dX7_monitored_45,
    ok_istore hM 4 dX7_monitored_46,
    ok_FR (ok_iload_n hM 3 dX7_monitored_48 rfl),
    ok_aload_n hM 0 dX7_monitored_49 rfl,
    ok_get (C := RX7) (T := TX7) (Nf := 11) hM (fun _ h => List.mem_cons_of_mem _ (List.mem_append_right _ h)) rfl 0 (by decide) (List.mem_of_getElem? (i := 2) rfl) rfl dX7_monitored_50,
    ok_bipush hM dX7_monitored_53 rfl,
    ok_iload hM 4 dX7_monitored_55,
    ok_iadd hM dX7_monitored_57,
    ok_iald hM dX7_monitored_58,
    ok_icmp_ge hM 80 dX7_monitored_59 (by decide),
    ok_aload_n hM 0 dX7_monitored_62 rfl,
    ok_get (C := RX7) (T := TX7) (Nf := 11) hM (fun _ h => List.mem_cons_of_mem _ (List.mem_append_right _ h)) rfl 0 (by decide) (List.mem_of_getElem? (i := 2) rfl) rfl dX7_monitored_63,
    ok_bipush hM dX7_monitored_66 rfl,
    ok_bipush hM dX7_monitored_68 rfl,
    ok_iload hM 4 dX7_monitored_70,
    ok_imul hM dX7_monitored_72,
    ok_iadd hM dX7_monitored_73,
    ok_iload_n hM 3 dX7_monitored_74 rfl,
    ok_iadd hM dX7_monitored_75,
    ok_iald hM dX7_monitored_76,
    ok_goto hM 81 dX7_monitored_77 (by decide),
    ok_iconst hM dX7_monitored_80 rfl,
    ok_ret hM hE dX7_monitored_81,
    trivial⟩
set_option maxRecDepth 100000 in
theorem ctX7_monitored (l : Launch) : Ct l yX7_monitored wsX7_monitored rmX7_monitored 0 0 false sX7_monitored := by
  refine ct_of (own := RX7) (cc := cX7_monitored) (maxL := 5) (ret := (some .int)) (by decide) rfl rfl (by rintro _ _ _ ⟨c, th, x, y, z, k, ans, c', rfl, hinv, hw, hr, hK⟩; exact Nat.le_of_ble_eq_true rfl) ?_
  intro X av es K hM hE hag hin hnL hsp
  obtain ⟨c, th, x, y, z, k, ans, c', rfl, hinv, hw, hr, hK⟩ := hsp
  have hf := kX7_monitored hM hE hnL
  obtain ⟨v, n, ch, H, o, s, sf, z0, z1⟩ := c
  obtain ⟨R, P, S, tg, at0, nu, rfl, hrl, hhr, hsl⟩ := hw
  obtain ⟨ho, hs, hn, hch, hk, hkH, hk0, hk1⟩ := hinv
  have bad : k = 1 → c' = (v, n, ch, H, o, s, sf, z0, z1) → K (some (.int (nI 0))) (mdW R P S sf tg (nF ch) (nI s) (nI n) at0 nu (nI 1) []) := fun e1 e2 => by
    subst e1
    subst e2
    exact hK _ ⟨R, P, S, tg, at0, nu, rfl, hrl, hhr, hsl⟩
  refine g_with (X := X) 23 [0, 1, 2, 3] (fun μ vs es k9 m9 => ∃ t q : Nat, μ = 0 ∧ t < 4 ∧ (q = 0 ∨ q = 2) ∧ x = nI t ∧ y = nI q ∧ vs = [.ref 0, .int (nI t), .int (nI q), .int z] ∧ es = mdW R P S sf tg (nF ch) (nI s) (nI n) at0 nu (nI 0) [] ∧ k9 = 0 ∧ m9 = 0) cut_nil (fun μ hc vs es k9 m9 hI => ?_) (fun hc => ?_)
  · obtain ⟨t, q, rfl, ht, hq, rfl, rfl, rfl, rfl, rfl, rfl⟩ := hI
    refine g_go hf hc 9 ?_
    refine ⟨_, _, _, rfl, rfl, ?_⟩
    by_cases q2 : inI z 8
    · obtain ⟨w, hw8, rfl⟩ := q2
      rw [inIB_t ⟨w, hw8, rfl⟩ rfl (by decide)]
      first | refine ⟨fun h => absurd h (by decide), fun _ => ?_⟩ | refine ⟨fun _ => ?_, fun h => absurd h (by decide)⟩
      obtain ⟨rfl, ea, rfl⟩ := hr.1 t q w ht hq hw8 rfl rfl rfl
      have hK := hK _ ⟨R, P, S, tg, at0, nu, rfl, hrl, hhr, hsl⟩
      rw [ea] at hK
      have hq8 : t * 2 + q / 2 < 8 := by omega
      obtain ⟨m, hm8, hm, hli, hre⟩ := hrl.2.2.2.1 (t * 2 + q / 2) hq8
      have eq1 : nI 2 * nI t + nI q / nI 2 = nI (t * 2 + q / 2) := by rw [pk_mul, pk_div (by omega) (by decide) (by decide), nI_add, Nat.mul_comm]
      refine ⟨by decide, ?_⟩
      refine ⟨72 + (t * 2 + q / 2), by rw [eq1, nI_add], by omega, ?_⟩
      rw [hm]
      refine ⟨fun h => ?_, fun h => ?_⟩
      · rw [nI_leI (by omega) (by omega)] at h
        rw [hli.2.1 w h hw8] at hK
        exact hK
      · rw [nI_leI (by omega) (by omega)] at h
        refine ⟨80 + 9 * (t * 2 + q / 2) + w, by rw [eq1, pk_mul, nI_add, nI_add], by omega, ?_⟩
        have e9 := hre w (by omega)
        rw [← e9] at hK
        exact hK
    · rw [inIB_f q2 rfl (by decide)]
      first | refine ⟨fun h => absurd h (by decide), fun _ => ?_⟩ | refine ⟨fun _ => ?_, fun h => absurd h (by decide)⟩
      obtain ⟨e1, e2⟩ := hr.2.2.2 ⟨t, ht, rfl⟩ (by rcases hq with rfl | rfl <;> first | exact Or.inl rfl | exact Or.inr rfl) q2
      refine ⟨_, R, P, S, sf, tg, _, _, _, at0, nu, _, [], rfl, rfl, ?_⟩
      exact bad e1 e2
  refine wr_ok hf hc 14 0 _ _ _ _ _ ?_
  refine ⟨_, _, _, rfl, rfl, ?_⟩
  by_cases q0 : inI x 4
  · obtain ⟨t, ht, rfl⟩ := q0
    rw [inIB_t ⟨t, ht, rfl⟩ rfl (by decide)]
    first | refine ⟨fun h => absurd h (by decide), fun _ => ?_⟩ | refine ⟨fun _ => ?_, fun h => absurd h (by decide)⟩
    refine ⟨fun h1 => ?_, fun h1 => ?_⟩
    · have h1 : y = nI 0 := h1
      exact ⟨0, t, 0, rfl, ht, Or.inl rfl, rfl, h1, by rw [h1] <;> rfl, rfl, rfl, rfl⟩
    · refine ⟨fun h2 => ?_, fun h2 => ?_⟩
      · obtain ⟨e1, e2⟩ := hr.2.2.1 ⟨t, ht, rfl⟩ (fun z => z.elim (fun z => h1 z) (fun z => h2 z))
        refine ⟨_, R, P, S, sf, tg, _, _, _, at0, nu, _, [], rfl, rfl, ?_⟩
        exact bad e1 e2
      · have h2 : y = nI 2 := h2
        exact ⟨0, t, 2, rfl, ht, Or.inr rfl, rfl, h2, by rw [h2] <;> rfl, rfl, rfl, rfl⟩
  · rw [inIB_f q0 rfl (by decide)]
    first | refine ⟨fun h => absurd h (by decide), fun _ => ?_⟩ | refine ⟨fun _ => ?_, fun h => absurd h (by decide)⟩
    obtain ⟨e1, e2⟩ := hr.2.1 q0
    refine ⟨_, R, P, S, sf, tg, _, _, _, at0, nu, _, [], rfl, rfl, ?_⟩
    exact bad e1 e2
def sX7_undo : gS := fun av es K => ∃ c th k ans c', av = [.ref 0] ∧ inv c ∧ mW c th es ∧ r_undo c k ans c' ∧ ∀ es', mW c' (nI k) es' → K (some (.int (an k ans))) es'
def rmX7_undo : Room := { frames := 1, cells := 0, slots := 0, locals := 21 }
def pX7_undo (K : gK) : List (Nat × gO) := [(0, oFR 7 (oALoad 0)), (1, oConst (nI 0)), (2, oPutI 7 10), (5, oFR 7 (oALoad 0)), (6, oGet 7 4), (9, oIf_ne 18), (12, oALoad 0), (13, oConst (nI 1)), (14, oCallV0 0 0 7 1 sX7_fails), (17, oFR 7 (oRet K 0 0)), (18, oALoad 0), (19, oDup), (20, oGet 7 4), (23, oConst (nI 1)), (24, oSub), (25, oPutI 7 4), (28, oConst (nI 0)), (29, oFR 7 (oIStore 2 1)), (30, oFR 7 (oILoad 1)), (31, oConst (nI 206)), (34, oICmp_ge 64), (37, oALoad 0), (38, oGet 7 0), (41, oILoad 1), (42, oALoad 0), (43, oGet 7 1), (46, oConst (nI 206)), (49, oALoad 0), (50, oGet 7 4), (53, oMul), (54, oILoad 1), (55, oAdd), (56, oIALd 0), (57, oIASt), (58, oFR 7 (oIInc 2 1 (nI 1))), (61, oGoto 30), (64, oFR 7 (oALoad 0)), (65, oGet 7 4), (68, oRet K 0 0)]
set_option maxRecDepth 100000 in
theorem kX7_undo {X : gX} {l : Launch} (hM : gM X l cX7_undo RX7 wsX7_undo rmX7_undo) {K : gK} (hE : gR X K 0 0 (some .int)) (hnL : X.2.2.2.2.2.2.2.2.2.2.2.2.2.2.2.2 = 2) : okL X (pX7_undo K) := by
  obtain ⟨p, l1, e, R, s, m, args, below, meth, c, D, cA, A, ag, ad0, Q, nL⟩ := X
  cases hnL
  refine ⟨ok_FR (ok_aload_n hM 0 dX7_undo_0 rfl),
    ok_iconst hM dX7_undo_1 rfl,
    ok_putI (C := RX7) (T := TX7) (Nf := 11) hM (fun _ h => List.mem_cons_of_mem _ (List.mem_append_right _ h)) tyX7 tyX7_ok nmX7 rfl 10 (by decide) (List.mem_of_getElem? (i := 1) rfl) rfl rfl (by decide +kernel) dX7_undo_2,
    ok_FR (ok_aload_n hM 0 dX7_undo_5 rfl),
    ok_get (C := RX7) (T := TX7) (Nf := 11) hM (fun _ h => List.mem_cons_of_mem _ (List.mem_append_right _ h)) rfl 4 (by decide) (List.mem_of_getElem? (i := 2) rfl) rfl dX7_undo_6,
    ok_if_ne hM 18 dX7_undo_9 (by decide),
    ok_aload_n hM 0 dX7_undo_12 rfl,
    ok_iconst hM dX7_undo_13 rfl,
    ok_callV0 hM (ctX7_fails l) rfl gX7_undo_X7_fails rfl rfl rfl (by decide +kernel) (by decide) dX7_undo_14,
    ok_FR (ok_ret hM hE dX7_undo_17),
    ok_aload_n hM 0 dX7_undo_18 rfl,
    ok_dup hM dX7_undo_19,
    ok_get (C := RX7) (T := TX7) (Nf := 11) hM (fun _ h => List.mem_cons_of_mem _ (List.mem_append_right _ h)) rfl 4 (by decide) (List.mem_of_getElem? (i := 2) rfl) rfl dX7_undo_20,
    ok_iconst hM dX7_undo_23 rfl,
    ok_isub hM dX7_undo_24,
    ok_putI (C := RX7) (T := TX7) (Nf := 11) hM (fun _ h => List.mem_cons_of_mem _ (List.mem_append_right _ h)) tyX7 tyX7_ok nmX7 rfl 4 (by decide) (List.mem_of_getElem? (i := 2) rfl) rfl rfl (by decide +kernel) dX7_undo_25,
    ok_iconst hM dX7_undo_28 rfl,
    ok_FR (ok_istore_n hM 1 dX7_undo_29 rfl),
    ok_FR (ok_iload_n hM 1 dX7_undo_30 rfl),
    ok_sipush hM dX7_undo_31 rfl,
    ok_icmp_ge hM 64 dX7_undo_34 (by decide),
    ok_aload_n hM 0 dX7_undo_37 rfl,
    ok_get (C := RX7) (T := TX7) (Nf := 11) hM (fun _ h => List.mem_cons_of_mem _ (List.mem_append_right _ h)) rfl 0 (by decide) (List.mem_of_getElem? (i := 3) rfl) rfl dX7_undo_38,
    ok_iload_n hM 1 dX7_undo_41 rfl,
    ok_aload_n hM 0 dX7_undo_42 rfl,
    ok_get (C := RX7) (T := TX7) (Nf := 11) hM (fun _ h => List.mem_cons_of_mem _ (List.mem_append_right _ h)) rfl 1 (by decide) (List.mem_of_getElem? (i := 4) rfl) rfl dX7_undo_43,
    ok_sipush hM dX7_undo_46 rfl,
    ok_aload_n hM 0 dX7_undo_49 rfl,
    ok_get (C := RX7) (T := TX7) (Nf := 11) hM (fun _ h => List.mem_cons_of_mem _ (List.mem_append_right _ h)) rfl 4 (by decide) (List.mem_of_getElem? (i := 2) rfl) rfl dX7_undo_50,
    ok_imul hM dX7_undo_53,
    ok_iload_n hM 1 dX7_undo_54 rfl,
    ok_iadd hM dX7_undo_55,
    ok_iald hM dX7_undo_56,
    ok_iast hM dX7_undo_57,
    ok_FR (ok_iinc hM 1 dX7_undo_58 rfl),
    ok_goto hM 30 dX7_undo_61 (by decide),
    ok_FR (ok_aload_n hM 0 dX7_undo_64 rfl),
    ok_get (C := RX7) (T := TX7) (Nf := 11) hM (fun _ h => List.mem_cons_of_mem _ (List.mem_append_right _ h)) rfl 4 (by decide) (List.mem_of_getElem? (i := 2) rfl) rfl dX7_undo_65,
    ok_ret hM hE dX7_undo_68,
    trivial⟩
set_option maxRecDepth 100000 in
theorem ctX7_undo (l : Launch) : Ct l yX7_undo wsX7_undo rmX7_undo 0 0 false sX7_undo := by
  refine ct_of (own := RX7) (cc := cX7_undo) (maxL := 2) (ret := (some .int)) (by decide) rfl rfl (by rintro _ _ _ ⟨c, th, k, ans, c', rfl, hinv, hw, hr, hK⟩; exact Nat.le_of_ble_eq_true rfl) ?_
  intro X av es K hM hE hag hin hnL hsp
  obtain ⟨c, th, k, ans, c', rfl, hinv, hw, hr, hK⟩ := hsp
  have hf := kX7_undo hM hE hnL
  obtain ⟨v, n, ch, H, o, s, sf, z0, z1⟩ := c
  obtain ⟨R, P, S, tg, at0, nu, rfl, hrl, hhr, hsl⟩ := hw
  obtain ⟨ho, hs, hn, hch, hk, hkH, hk0, hk1⟩ := hinv
  refine g_with (X := X) 30 [0, 1] (fun μ vs es k m => ∃ (s' i : Nat) (R' : Nat → Int32), s = s' + 1 ∧ μ = 206 - i ∧ i ≤ 206 ∧ (∀ j, R' j = if j < i then P (206 * s' + j) else R j) ∧ vs = [.ref 0, .int (nI i)] ∧ es = mdW R' P S sf tg (nF ch) (nI s') (nI n) at0 nu (nI 0) [] ∧ k = 0 ∧ m = 0) cut_nil (fun μ hc vs es k m hI => ?_) (fun hc => ?_)
  · obtain ⟨s', i, R', rfl, rfl, hi, hR, rfl, rfl, rfl, rfl⟩ := hI
    refine g_go hf hc 9 ?_
    refine ⟨fun h => ?_, fun h => ?_⟩
    · have h4 : i = 206 := by
        rw [nI_leI (by decide) (by omega)] at h
        omega
      subst h4
      obtain ⟨rfl, ea, rfl⟩ := hr.1 s' rfl
      have hK := hK _ ⟨R', P, S, tg, at0, nu, rfl, rl_cong (hhr s' (by omega)) (fun j hj => (hR j).trans (if_pos hj)), fun q hq => hhr q (by omega), hsl⟩
      rw [ea] at hK
      exact hK
    · have h4 : i < 206 := by
        rw [nI_leI (by decide) (by omega)] at h
        omega
      refine ⟨206 * s' + i, by rw [pk_mul, nI_add], by omega, ?_⟩
      refine ⟨i, rfl, h4, ?_⟩
      refine ⟨206 - (i + 1), by omega, s', i + 1, upd R' i (P (206 * s' + i)), rfl, rfl, by omega, fun j => ?_, by rw [nI_add], rfl, rfl, rfl⟩
      unfold upd
      by_cases hj : j = i
      · rw [if_pos hj, if_pos (by omega), hj]
      · rw [if_neg hj, hR]
        have e1 : j < i ↔ j < i + 1 := by omega
        simp only [e1]
  · refine wr_ok hf hc 9 0 _ _ _ _ _ ?_
    refine ⟨fun h => ?_, fun h => ?_⟩
    · obtain ⟨s', rfl⟩ : ∃ s', s = s' + 1 := by
        cases s with
        | zero => exact absurd rfl h
        | succ s' => exact ⟨s', rfl⟩
      exact ⟨206, s', 0, R, rfl, rfl, by omega, fun j => by rw [if_neg (by omega)], rfl, by rw [show nI s' = nI (s' + 1) - nI 1 from by rw [pk_sub (by omega), Nat.add_sub_cancel]] <;> rfl, rfl, rfl⟩
    · have h0 : s = 0 := nI_inj h (by omega) (by decide)
      obtain ⟨rfl, rfl⟩ := hr.2 h0
      refine ⟨_, R, P, S, sf, tg, _, _, _, at0, nu, _, [], rfl, rfl, ?_⟩
      exact hK _ ⟨R, P, S, tg, at0, nu, rfl, hrl, hhr, hsl⟩
def sX7_save : gS := fun av es K => ∃ c th x k ans c', av = [.ref 0, .int x] ∧ inv c ∧ mW c th es ∧ r_save c x k ans c' ∧ ∀ es', mW c' (nI k) es' → K (some (.int (an k ans))) es'
def rmX7_save : Room := { frames := 2, cells := 0, slots := 0, locals := 45 }
def pX7_save (K : gK) : List (Nat × gO) := [(0, oFR 7 (oALoad 0)), (1, oConst (nI 0)), (2, oPutI 7 10), (5, oFR 7 (oILoad 1)), (6, oConst (nI 0)), (7, oConst (nI 1)), (8, oSR 7 0 0 3 [] sX7_in), (11, oFR 7 (oIf_ne 20)), (14, oALoad 0), (15, oConst (nI 1)), (16, oCallV0 0 0 7 1 sX7_fails), (19, oFR 7 (oRet K 0 0)), (20, oConst (nI 0)), (21, oIStore 3 2), (22, oFR 7 (oILoad 2)), (23, oConst (nI 206)), (26, oICmp_ge 53), (29, oALoad 0), (30, oGet 7 2), (33, oConst (nI 206)), (36, oILoad 1), (37, oMul), (38, oILoad 2), (39, oAdd), (40, oALoad 0), (41, oGet 7 0), (44, oILoad 2), (45, oIALd 0), (46, oIASt), (47, oFR 7 (oIInc 3 2 (nI 1))), (50, oGoto 22), (53, oFR 7 (oALoad 0)), (54, oGet 7 3), (57, oILoad 1), (58, oConst (nI 1)), (59, oZASt), (60, oFR 7 (oALoad 0)), (61, oCallV0 0 0 7 0 sX7_allLines), (64, oFR 7 (oRet K 0 0))]
set_option maxRecDepth 100000 in
theorem kX7_save {X : gX} {l : Launch} (hM : gM X l cX7_save RX7 wsX7_save rmX7_save) {K : gK} (hE : gR X K 0 0 (some .int)) (hnL : X.2.2.2.2.2.2.2.2.2.2.2.2.2.2.2.2 = 3) : okL X (pX7_save K) := by
  obtain ⟨p, l1, e, R, s, m, args, below, meth, c, D, cA, A, ag, ad0, Q, nL⟩ := X
  cases hnL
  refine ⟨ok_FR (ok_aload_n hM 0 dX7_save_0 rfl),
    ok_iconst hM dX7_save_1 rfl,
    ok_putI (C := RX7) (T := TX7) (Nf := 11) hM (fun _ h => List.mem_cons_of_mem _ (List.mem_append_right _ h)) tyX7 tyX7_ok nmX7 rfl 10 (by decide) (List.mem_of_getElem? (i := 1) rfl) rfl rfl (by decide +kernel) dX7_save_2,
    ok_FR (ok_iload_n hM 1 dX7_save_5 rfl),
    ok_iconst hM dX7_save_6 rfl,
    ok_iconst hM dX7_save_7 rfl,
    ok_SR (ok_callS hM [] (ctX7_in l) rfl gX7_save_X7_in rfl rfl rfl (by decide +kernel) (by decide) dX7_save_8),
    ok_FR (ok_if_ne hM 20 dX7_save_11 (by decide)),
    ok_aload_n hM 0 dX7_save_14 rfl,
    ok_iconst hM dX7_save_15 rfl,
    ok_callV0 hM (ctX7_fails l) rfl gX7_save_X7_fails rfl rfl rfl (by decide +kernel) (by decide) dX7_save_16,
    ok_FR (ok_ret hM hE dX7_save_19),
    ok_iconst hM dX7_save_20 rfl,
    ok_istore_n hM 2 dX7_save_21 rfl,
    ok_FR (ok_iload_n hM 2 dX7_save_22 rfl),
    ok_sipush hM dX7_save_23 rfl,
    ok_icmp_ge hM 53 dX7_save_26 (by decide),
    ok_aload_n hM 0 dX7_save_29 rfl,
    ok_get (C := RX7) (T := TX7) (Nf := 11) hM (fun _ h => List.mem_cons_of_mem _ (List.mem_append_right _ h)) rfl 2 (by decide) (List.mem_of_getElem? (i := 2) rfl) rfl dX7_save_30,
    ok_sipush hM dX7_save_33 rfl,
    ok_iload_n hM 1 dX7_save_36 rfl,
    ok_imul hM dX7_save_37,
    ok_iload_n hM 2 dX7_save_38 rfl,
    ok_iadd hM dX7_save_39,
    ok_aload_n hM 0 dX7_save_40 rfl,
    ok_get (C := RX7) (T := TX7) (Nf := 11) hM (fun _ h => List.mem_cons_of_mem _ (List.mem_append_right _ h)) rfl 0 (by decide) (List.mem_of_getElem? (i := 3) rfl) rfl dX7_save_41,
    ok_iload_n hM 2 dX7_save_44 rfl,
    ok_iald hM dX7_save_45,
    ok_iast hM dX7_save_46,
    ok_FR (ok_iinc hM 2 dX7_save_47 rfl),
    ok_goto hM 22 dX7_save_50 (by decide),
    ok_FR (ok_aload_n hM 0 dX7_save_53 rfl),
    ok_get (C := RX7) (T := TX7) (Nf := 11) hM (fun _ h => List.mem_cons_of_mem _ (List.mem_append_right _ h)) rfl 3 (by decide) (List.mem_of_getElem? (i := 4) rfl) rfl dX7_save_54,
    ok_iload_n hM 1 dX7_save_57 rfl,
    ok_iconst hM dX7_save_58 rfl,
    ok_zast hM dX7_save_59,
    ok_FR (ok_aload_n hM 0 dX7_save_60 rfl),
    ok_callV0 hM (ctX7_allLines l) rfl gX7_save_X7_allLines rfl rfl rfl (by decide +kernel) (by decide) dX7_save_61,
    ok_FR (ok_ret hM hE dX7_save_64),
    trivial⟩
set_option maxRecDepth 100000 in
theorem ctX7_save (l : Launch) : Ct l yX7_save wsX7_save rmX7_save 0 0 false sX7_save := by
  refine ct_of (own := RX7) (cc := cX7_save) (maxL := 3) (ret := (some .int)) (by decide) rfl rfl (by rintro _ _ _ ⟨c, th, x, k, ans, c', rfl, hinv, hw, hr, hK⟩; exact Nat.le_of_ble_eq_true rfl) ?_
  intro X av es K hM hE hag hin hnL hsp
  obtain ⟨c, th, x, k, ans, c', rfl, hinv, hw, hr, hK⟩ := hsp
  have hf := kX7_save hM hE hnL
  obtain ⟨v, n, ch, H, o, s, sf, z0, z1⟩ := c
  obtain ⟨R, P, S, tg, at0, nu, rfl, hrl, hhr, hsl⟩ := hw
  obtain ⟨ho, hs, hn, hch, hk, hkH, hk0, hk1⟩ := hinv
  refine g_with (X := X) 22 [0, 1, 2] (fun μ vs es k m => ∃ (q i : Nat) (S' : Nat → Int32), q < 2 ∧ x = nI q ∧ μ = 206 - i ∧ i ≤ 206 ∧ (∀ j, S' j = if 206 * q ≤ j ∧ j < 206 * q + i then R (j - 206 * q) else S j) ∧ vs = [.ref 0, .int (nI q), .int (nI i)] ∧ es = mdW R P S' sf tg (nF ch) (nI s) (nI n) at0 nu (nI 0) [] ∧ k = 0 ∧ m = 0) cut_nil (fun μ hc vs es k m hI => ?_) (fun hc => ?_)
  · obtain ⟨q, i, S', hq, rfl, rfl, hi, hS, rfl, rfl, rfl, rfl⟩ := hI
    refine g_go hf hc 9 ?_
    refine ⟨fun h => ?_, fun h => ?_⟩
    · have h4 : i = 206 := by
        rw [nI_leI (by decide) (by omega)] at h
        omega
      subst h4
      obtain ⟨rfl, ea, rfl⟩ := hr.1 q hq rfl
      refine ⟨q, rfl, hq, by decide +kernel, ?_⟩
      refine ⟨_, R, _, rfl, rl_ln hk hrl, rfl, ?_⟩
      have hK := hK _ ⟨R, P, S', tg, at0, nu, rfl, hrl, hhr, fun u hu hne => ?_⟩
      · have e9 := al_all hrl
        rw [ea, ← e9] at hK
        exact hK
      · by_cases c : u = q
        · subst c
          have e1 : svZ u 0 (svZ u 0 v z0) (svZ u 1 v z1) = v := by
            have : u = 0 ∨ u = 1 := by omega
            rcases this with rfl | rfl <;> rfl
          rw [e1]
          refine rl_cong hrl (fun j hj => ?_)
          show S' (206 * u + j) = R j
          rw [hS, if_pos ⟨by omega, by omega⟩, show 206 * u + j - 206 * u = j by omega]
        · have e1 : svZ u 0 (svZ q 0 v z0) (svZ q 1 v z1) = svZ u 0 z0 z1 := by
            have h1 : u = 0 ∨ u = 1 := by omega
            have h2 : q = 0 ∨ q = 1 := by omega
            rcases h1 with rfl | rfl <;> rcases h2 with rfl | rfl <;> first | rfl | exact absurd rfl c
          rw [e1]
          refine rl_cong (hsl u hu (by rwa [pk_un c] at hne)) (fun j hj => ?_)
          show S' (206 * u + j) = S (206 * u + j)
          rw [hS, if_neg (by omega)]
    · have h4 : i < 206 := by
        rw [nI_leI (by decide) (by omega)] at h
        omega
      refine ⟨i, rfl, h4, ?_⟩
      refine ⟨206 * q + i, by rw [pk_mul, nI_add], by omega, ?_⟩
      refine ⟨206 - (i + 1), by omega, q, i + 1, upd S' (206 * q + i) (R i), hq, rfl, rfl, by omega, fun j => ?_, by rw [nI_add], rfl, rfl, rfl⟩
      unfold upd
      by_cases hj : j = 206 * q + i
      · rw [if_pos hj, if_pos ⟨by omega, by omega⟩, show j - 206 * q = i by omega]
      · rw [if_neg hj, hS]
        have e1 : (206 * q ≤ j ∧ j < 206 * q + i) ↔ (206 * q ≤ j ∧ j < 206 * q + (i + 1)) := by omega
        simp only [e1]
  · refine wr_ok hf hc 9 0 _ _ _ _ _ ?_
    refine ⟨_, _, _, rfl, rfl, ?_⟩
    by_cases q0 : inI x 2
    · obtain ⟨q, hq, rfl⟩ := q0
      rw [inIB_t ⟨q, hq, rfl⟩ rfl (by decide)]
      first | refine ⟨fun h => absurd h (by decide), fun _ => ?_⟩ | refine ⟨fun _ => ?_, fun h => absurd h (by decide)⟩
      exact ⟨206, q, 0, S, hq, rfl, rfl, by omega, fun j => by rw [if_neg (by omega)], rfl, rfl, rfl, rfl⟩
    · rw [inIB_f q0 rfl (by decide)]
      first | refine ⟨fun h => absurd h (by decide), fun _ => ?_⟩ | refine ⟨fun _ => ?_, fun h => absurd h (by decide)⟩
      obtain ⟨rfl, rfl⟩ := hr.2 q0
      refine ⟨_, R, P, S, sf, tg, _, _, _, at0, nu, _, [], rfl, rfl, ?_⟩
      exact hK _ ⟨R, P, S, tg, at0, nu, rfl, hrl, hhr, hsl⟩
def sX7_restore : gS := fun av es K => ∃ c th x k ans c', av = [.ref 0, .int x] ∧ inv c ∧ mW c th es ∧ r_restore c x k ans c' ∧ ∀ es', mW c' (nI k) es' → K (some (.int (an k ans))) es'
def rmX7_restore : Room := { frames := 2, cells := 0, slots := 0, locals := 45 }
def pX7_restore (K : gK) : List (Nat × gO) := [(0, oFR 7 (oALoad 0)), (1, oConst (nI 0)), (2, oPutI 7 10), (5, oFR 7 (oILoad 1)), (6, oConst (nI 0)), (7, oConst (nI 1)), (8, oSR 7 0 0 3 [] sX7_in), (11, oFR 7 (oIf_ne 20)), (14, oALoad 0), (15, oConst (nI 1)), (16, oCallV0 0 0 7 1 sX7_fails), (19, oFR 7 (oRet K 0 0)), (20, oALoad 0), (21, oGet 7 3), (24, oILoad 1), (25, oIALd 2), (26, oIf_ne 35), (29, oALoad 0), (30, oConst (nI 2)), (31, oCallV0 0 0 7 1 sX7_fails), (34, oFR 7 (oRet K 0 0)), (35, oALoad 0), (36, oCallV0 0 0 7 0 sX7_record), (39, oConst (nI 0)), (40, oFR 7 (oIStore 3 2)), (41, oFR 7 (oILoad 2)), (42, oConst (nI 206)), (45, oICmp_ge 72), (48, oALoad 0), (49, oGet 7 0), (52, oILoad 2), (53, oALoad 0), (54, oGet 7 2), (57, oConst (nI 206)), (60, oILoad 1), (61, oMul), (62, oILoad 2), (63, oAdd), (64, oIALd 0), (65, oIASt), (66, oFR 7 (oIInc 3 2 (nI 1))), (69, oGoto 41), (72, oFR 7 (oALoad 0)), (73, oCallV0 0 0 7 0 sX7_allLines), (76, oFR 7 (oRet K 0 0))]
set_option maxRecDepth 100000 in
theorem kX7_restore {X : gX} {l : Launch} (hM : gM X l cX7_restore RX7 wsX7_restore rmX7_restore) {K : gK} (hE : gR X K 0 0 (some .int)) (hnL : X.2.2.2.2.2.2.2.2.2.2.2.2.2.2.2.2 = 3) : okL X (pX7_restore K) := by
  obtain ⟨p, l1, e, R, s, m, args, below, meth, c, D, cA, A, ag, ad0, Q, nL⟩ := X
  cases hnL
  refine ⟨ok_FR (ok_aload_n hM 0 dX7_restore_0 rfl),
    ok_iconst hM dX7_restore_1 rfl,
    ok_putI (C := RX7) (T := TX7) (Nf := 11) hM (fun _ h => List.mem_cons_of_mem _ (List.mem_append_right _ h)) tyX7 tyX7_ok nmX7 rfl 10 (by decide) (List.mem_of_getElem? (i := 1) rfl) rfl rfl (by decide +kernel) dX7_restore_2,
    ok_FR (ok_iload_n hM 1 dX7_restore_5 rfl),
    ok_iconst hM dX7_restore_6 rfl,
    ok_iconst hM dX7_restore_7 rfl,
    ok_SR (ok_callS hM [] (ctX7_in l) rfl gX7_restore_X7_in rfl rfl rfl (by decide +kernel) (by decide) dX7_restore_8),
    ok_FR (ok_if_ne hM 20 dX7_restore_11 (by decide)),
    ok_aload_n hM 0 dX7_restore_14 rfl,
    ok_iconst hM dX7_restore_15 rfl,
    ok_callV0 hM (ctX7_fails l) rfl gX7_restore_X7_fails rfl rfl rfl (by decide +kernel) (by decide) dX7_restore_16,
    ok_FR (ok_ret hM hE dX7_restore_19),
    ok_aload_n hM 0 dX7_restore_20 rfl,
    ok_get (C := RX7) (T := TX7) (Nf := 11) hM (fun _ h => List.mem_cons_of_mem _ (List.mem_append_right _ h)) rfl 3 (by decide) (List.mem_of_getElem? (i := 2) rfl) rfl dX7_restore_21,
    ok_iload_n hM 1 dX7_restore_24 rfl,
    ok_zald hM dX7_restore_25,
    ok_if_ne hM 35 dX7_restore_26 (by decide),
    ok_aload_n hM 0 dX7_restore_29 rfl,
    ok_iconst hM dX7_restore_30 rfl,
    ok_callV0 hM (ctX7_fails l) rfl gX7_restore_X7_fails rfl rfl rfl (by decide +kernel) (by decide) dX7_restore_31,
    ok_FR (ok_ret hM hE dX7_restore_34),
    ok_aload_n hM 0 dX7_restore_35 rfl,
    ok_callV0 hM (ctX7_record l) rfl gX7_restore_X7_record rfl rfl rfl (by decide +kernel) (by decide) dX7_restore_36,
    ok_iconst hM dX7_restore_39 rfl,
    ok_FR (ok_istore_n hM 2 dX7_restore_40 rfl),
    ok_FR (ok_iload_n hM 2 dX7_restore_41 rfl),
    ok_sipush hM dX7_restore_42 rfl,
    ok_icmp_ge hM 72 dX7_restore_45 (by decide),
    ok_aload_n hM 0 dX7_restore_48 rfl,
    ok_get (C := RX7) (T := TX7) (Nf := 11) hM (fun _ h => List.mem_cons_of_mem _ (List.mem_append_right _ h)) rfl 0 (by decide) (List.mem_of_getElem? (i := 3) rfl) rfl dX7_restore_49,
    ok_iload_n hM 2 dX7_restore_52 rfl,
    ok_aload_n hM 0 dX7_restore_53 rfl,
    ok_get (C := RX7) (T := TX7) (Nf := 11) hM (fun _ h => List.mem_cons_of_mem _ (List.mem_append_right _ h)) rfl 2 (by decide) (List.mem_of_getElem? (i := 4) rfl) rfl dX7_restore_54,
    ok_sipush hM dX7_restore_57 rfl,
    ok_iload_n hM 1 dX7_restore_60 rfl,
    ok_imul hM dX7_restore_61,
    ok_iload_n hM 2 dX7_restore_62 rfl,
    ok_iadd hM dX7_restore_63,
    ok_iald hM dX7_restore_64,
    ok_iast hM dX7_restore_65,
    ok_FR (ok_iinc hM 2 dX7_restore_66 rfl),
    ok_goto hM 41 dX7_restore_69 (by decide),
    ok_FR (ok_aload_n hM 0 dX7_restore_72 rfl),
    ok_callV0 hM (ctX7_allLines l) rfl gX7_restore_X7_allLines rfl rfl rfl (by decide +kernel) (by decide) dX7_restore_73,
    ok_FR (ok_ret hM hE dX7_restore_76),
    trivial⟩
set_option maxRecDepth 100000 in
theorem ctX7_restore (l : Launch) : Ct l yX7_restore wsX7_restore rmX7_restore 0 0 false sX7_restore := by
  refine ct_of (own := RX7) (cc := cX7_restore) (maxL := 3) (ret := (some .int)) (by decide) rfl rfl (by rintro _ _ _ ⟨c, th, x, k, ans, c', rfl, hinv, hw, hr, hK⟩; exact Nat.le_of_ble_eq_true rfl) ?_
  intro X av es K hM hE hag hin hnL hsp
  obtain ⟨c, th, x, k, ans, c', rfl, hinv, hw, hr, hK⟩ := hsp
  have hf := kX7_restore hM hE hnL
  obtain ⟨v, n, ch, H, o, s, sf, z0, z1⟩ := c
  obtain ⟨R, P, S, tg, at0, nu, rfl, hrl, hhr, hsl⟩ := hw
  obtain ⟨ho, hs, hn, hch, hk, hkH, hk0, hk1⟩ := hinv
  refine g_with (X := X) 41 [0, 1, 2] (fun μ vs es k m => ∃ (q i : Nat) (R' : Nat → Int32), q < 2 ∧ x = nI q ∧ ¬ sf q = 0 ∧ μ = 206 - i ∧ i ≤ 206 ∧ (∀ j, R' j = if j < i then S (206 * q + j) else R j) ∧ vs = [.ref 0, .int (nI q), .int (nI i)] ∧ es = mdW R' (rcP R P s 206) S sf tg (nF ch) (nI (psS s)) (nI n) at0 nu (nI 0) [] ∧ k = 0 ∧ m = 0) cut_nil (fun μ hc vs es k m hI => ?_) (fun hc => ?_)
  · obtain ⟨q, i, R', hq, rfl, hne, rfl, hi, hR, rfl, rfl, rfl, rfl⟩ := hI
    refine g_go hf hc 9 ?_
    refine ⟨fun h => ?_, fun h => ?_⟩
    · have h4 : i = 206 := by
        rw [nI_leI (by decide) (by omega)] at h
        omega
      subst h4
      obtain ⟨rfl, ea, rfl⟩ := hr.1 q hq rfl hne
      have hr2 : rl (svZ q 0 z0 z1) R' := rl_cong (hsl q hq hne) (fun j hj => (hR j).trans (if_pos hj))
      refine ⟨_, R', _, rfl, rl_ln (vK_sv (q := q) (i := 0) hk0 hk1) hr2, rfl, ?_⟩
      have hK := hK _ ⟨R', _, S, tg, at0, nu, rfl, hr2, hr_push ho hs hhr hrl, hsl⟩
      have e9 := al_all hr2
      rw [ea, ← e9] at hK
      exact hK
    · have h4 : i < 206 := by
        rw [nI_leI (by decide) (by omega)] at h
        omega
      refine ⟨206 * q + i, by rw [pk_mul, nI_add], by omega, ?_⟩
      refine ⟨i, rfl, h4, ?_⟩
      refine ⟨206 - (i + 1), by omega, q, i + 1, upd R' i (S (206 * q + i)), hq, rfl, hne, rfl, by omega, fun j => ?_, by rw [nI_add], rfl, rfl, rfl⟩
      unfold upd
      by_cases hj : j = i
      · rw [if_pos hj, if_pos (by omega), hj]
      · rw [if_neg hj, hR]
        have e1 : j < i ↔ j < i + 1 := by omega
        simp only [e1]
  · refine wr_ok hf hc 9 0 _ _ _ _ _ ?_
    refine ⟨_, _, _, rfl, rfl, ?_⟩
    by_cases q0 : inI x 2
    · obtain ⟨q, hq, rfl⟩ := q0
      rw [inIB_t ⟨q, hq, rfl⟩ rfl (by decide)]
      first | refine ⟨fun h => absurd h (by decide), fun _ => ?_⟩ | refine ⟨fun _ => ?_, fun h => absurd h (by decide)⟩
      refine ⟨q, rfl, hq, ?_⟩
      refine ⟨fun h => ?_, fun h => ?_⟩
      · refine ⟨s, R, P, S, sf, tg, _, _, at0, nu, _, [], rfl, hs, rfl, ?_⟩
        rw [qs_ps hs]
        exact ⟨206, q, 0, R, hq, rfl, h, rfl, by omega, fun j => by rw [if_neg (by omega)], rfl, rfl, rfl, rfl⟩
      · obtain ⟨rfl, rfl⟩ := hr.2.2 q hq rfl h
        refine ⟨_, R, P, S, sf, tg, _, _, _, at0, nu, _, [], rfl, rfl, ?_⟩
        exact hK _ ⟨R, P, S, tg, at0, nu, rfl, hrl, hhr, hsl⟩
    · rw [inIB_f q0 rfl (by decide)]
      first | refine ⟨fun h => absurd h (by decide), fun _ => ?_⟩ | refine ⟨fun _ => ?_, fun h => absurd h (by decide)⟩
      obtain ⟨rfl, rfl⟩ := hr.2.1 q0
      refine ⟨_, R, P, S, sf, tg, _, _, _, at0, nu, _, [], rfl, rfl, ?_⟩
      exact hK _ ⟨R, P, S, tg, at0, nu, rfl, hrl, hhr, hsl⟩
end MM16

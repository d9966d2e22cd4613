/-! PartitionedCache: its public methods. -/
section MQ4
abbrev inI (x : Int32) (b : Nat) : Prop := ∃ n, n < b ∧ x = nI n
abbrev inA (x : Int32) (lo hi : Nat) : Prop := ∃ n, lo ≤ n ∧ n ≤ hi ∧ x = nI n
def sX6_moveWay : gS := fun av es K => ∃ v wy n ch H o s r L, av = [.ref 0] ∧ o < 6 ∧ s ≤ 6 ∧ (∀ t, t < 4 → vLe v t = nI (L t) ∧ L t ≤ 2) ∧ es = wX v wy n ch H o s r ∧ ∀ wy', K (some (.int (oI (mvW L v)))) (wX (mvV L v) wy' n ch (psH H o s v) (psO o s) (psS s) r)
def rmX6_moveWay : Room := { frames := 4, cells := 0, slots := 0, locals := 123 }
def pX6_moveWay (K : gK) : List (Nat × gO) := [(0, oFR 17 (oALoad 0)), (1, oGet 6 2), (4, oALoad 0), (5, oGet 6 0), (8, oPushX 0 0), (11, oALoad 0), (12, oCallV0 0 0 6 0 sX6_moveOneWay), (15, oFR 17 (oRet K 0 0))]
set_option maxRecDepth 100000 in
theorem kX6_moveWay {X : gX} {l : Launch} (hM : gM X l cX6_moveWay RX6 wsX6_moveWay rmX6_moveWay) {K : gK} (hE : gR X K 0 0 (some .int)) (hnL : X.2.2.2.2.2.2.2.2.2.2.2.2.2.2.2.2 = 1) : okL X (pX6_moveWay K) := by
  obtain ⟨p, l1, e, R, s, m, args, below, meth, c, D, cA, A, ag, ad0, Q, nL⟩ := X
  cases hnL
  refine ⟨ok_FR (ok_aload_n hM 0 dX6_moveWay_0 rfl),
    ok_get (C := RX6) (T := TX6) (Nf := 6) hM (fun _ h => List.mem_cons_of_mem _ (List.mem_append_left _ (List.mem_append_left _ (List.mem_append_left _ (List.mem_append_left _ (List.mem_append_left _ (List.mem_append_right _ h))))))) rfl 2 (by decide) (List.mem_of_getElem? (i := 1) rfl) rfl dX6_moveWay_1,
    ok_aload_n hM 0 dX6_moveWay_4 rfl,
    ok_get (C := RX6) (T := TX6) (Nf := 6) hM (fun _ h => List.mem_cons_of_mem _ (List.mem_append_left _ (List.mem_append_left _ (List.mem_append_left _ (List.mem_append_left _ (List.mem_append_left _ (List.mem_append_right _ h))))))) rfl 0 (by decide) (List.mem_of_getElem? (i := 2) rfl) rfl dX6_moveWay_5,
    ok_pushX (ok_callV hM idH (ctX1_push l) rfl rfl gX6_moveWay_X1_push rfl rfl rfl (by decide +kernel) (by decide) dX6_moveWay_8),
    ok_aload_n hM 0 dX6_moveWay_11 rfl,
    ok_callV0 hM (ctX6_moveOneWay l) rfl gX6_moveWay_X6_moveOneWay rfl rfl rfl (by decide +kernel) (by decide) dX6_moveWay_12,
    ok_FR (ok_ret hM hE dX6_moveWay_15),
    trivial⟩
set_option maxRecDepth 100000 in
theorem ctX6_moveWay (l : Launch) : Ct l yX6_moveWay wsX6_moveWay rmX6_moveWay 0 0 false sX6_moveWay := by
  refine ct_of (own := RX6) (cc := cX6_moveWay) (maxL := 1) (ret := (some .int)) (by decide) rfl rfl (by rintro _ _ _ ⟨v, wy, n, ch, H, o, s, r, L, rfl, ho, hs, hL, rfl, hK⟩; exact Nat.le_of_ble_eq_true rfl) ?_
  intro X av es K hM hE hag hin hnL hsp
  obtain ⟨v, wy, n, ch, H, o, s, r, L, rfl, ho, hs, hL, rfl, hK⟩ := hsp
  have hf := kX6_moveWay hM hE hnL
  refine wr_ok hf cut_nil 5 0 _ _ _ _ _ ?_
  refine ⟨v, wy, n, ch, H, o, s, r, ho, hs, rfl, ?_⟩
  refine ⟨v, wy, _, L, rfl, hL, rfl, fun wy' => ?_⟩
  exact hK wy'
def sX6_halveGains : gS := fun av es K => ∃ v wy n ch H o s r, av = [.ref 0] ∧ o < 6 ∧ s ≤ 6 ∧ es = wX v wy n ch H o s r ∧ K (some (.int (sumI (hlv (vGa v)) 32))) (wX (hlV v) wy n ch (psH H o s v) (psO o s) (psS s) r)
def rmX6_halveGains : Room := { frames := 4, cells := 0, slots := 0, locals := 123 }
def pX6_halveGains (K : gK) : List (Nat × gO) := [(0, oFR 17 (oALoad 0)), (1, oGet 6 2), (4, oALoad 0), (5, oGet 6 0), (8, oPushX 0 0), (11, oALoad 0), (12, oGet 6 0), (15, oGet 4 1), (18, oCallVR 17 0 0 2 0 [6,7,8] sX2_halve), (21, oFR 17 (oALoad 0)), (22, oGet 6 0), (25, oGet 4 1), (28, oCallVR 17 0 0 2 0 [6,7,8] sX2_sumOfGains), (31, oFR 17 (oRet K 0 0))]
set_option maxRecDepth 100000 in
theorem kX6_halveGains {X : gX} {l : Launch} (hM : gM X l cX6_halveGains RX6 wsX6_halveGains rmX6_halveGains) {K : gK} (hE : gR X K 0 0 (some .int)) (hnL : X.2.2.2.2.2.2.2.2.2.2.2.2.2.2.2.2 = 1) : okL X (pX6_halveGains K) := by
  obtain ⟨p, l1, e, R, s, m, args, below, meth, c, D, cA, A, ag, ad0, Q, nL⟩ := X
  cases hnL
  refine ⟨ok_FR (ok_aload_n hM 0 dX6_halveGains_0 rfl),
    ok_get (C := RX6) (T := TX6) (Nf := 6) hM (fun _ h => List.mem_cons_of_mem _ (List.mem_append_left _ (List.mem_append_left _ (List.mem_append_left _ (List.mem_append_left _ (List.mem_append_right _ h)))))) rfl 2 (by decide) (List.mem_of_getElem? (i := 1) rfl) rfl dX6_halveGains_1,
    ok_aload_n hM 0 dX6_halveGains_4 rfl,
    ok_get (C := RX6) (T := TX6) (Nf := 6) hM (fun _ h => List.mem_cons_of_mem _ (List.mem_append_left _ (List.mem_append_left _ (List.mem_append_left _ (List.mem_append_left _ (List.mem_append_right _ h)))))) rfl 0 (by decide) (List.mem_of_getElem? (i := 2) rfl) rfl dX6_halveGains_5,
    ok_pushX (ok_callV hM idH (ctX1_push l) rfl rfl gX6_halveGains_X1_push rfl rfl rfl (by decide +kernel) (by decide) dX6_halveGains_8),
    ok_aload_n hM 0 dX6_halveGains_11 rfl,
    ok_get (C := RX6) (T := TX6) (Nf := 6) hM (fun _ h => List.mem_cons_of_mem _ (List.mem_append_left _ (List.mem_append_left _ (List.mem_append_left _ (List.mem_append_left _ (List.mem_append_right _ h)))))) rfl 0 (by decide) (List.mem_of_getElem? (i := 2) rfl) rfl dX6_halveGains_12,
    ok_get (C := RX4) (T := TX4) (Nf := 6) hM (fun _ h => List.mem_cons_of_mem _ (List.mem_append_left _ (List.mem_append_left _ (List.mem_append_left _ (List.mem_append_right _ h))))) rfl 1 (by decide) (List.mem_of_getElem? (i := 3) rfl) rfl dX6_halveGains_15,
    ok_R (ok_callV hM [6,7,8] (ctX2_halve l) rfl rfl gX6_halveGains_X2_halve rfl rfl rfl (by decide +kernel) (by decide) dX6_halveGains_18),
    ok_FR (ok_aload_n hM 0 dX6_halveGains_21 rfl),
    ok_get (C := RX6) (T := TX6) (Nf := 6) hM (fun _ h => List.mem_cons_of_mem _ (List.mem_append_left _ (List.mem_append_left _ (List.mem_append_left _ (List.mem_append_left _ (List.mem_append_right _ h)))))) rfl 0 (by decide) (List.mem_of_getElem? (i := 2) rfl) rfl dX6_halveGains_22,
    ok_get (C := RX4) (T := TX4) (Nf := 6) hM (fun _ h => List.mem_cons_of_mem _ (List.mem_append_left _ (List.mem_append_left _ (List.mem_append_left _ (List.mem_append_right _ h))))) rfl 1 (by decide) (List.mem_of_getElem? (i := 3) rfl) rfl dX6_halveGains_25,
    ok_R (ok_callV hM [6,7,8] (ctX2_sumOfGains l) rfl rfl gX6_halveGains_X2_sumOfGains rfl rfl rfl (by decide +kernel) (by decide) dX6_halveGains_28),
    ok_FR (ok_ret hM hE dX6_halveGains_31),
    trivial⟩
set_option maxRecDepth 100000 in
theorem ctX6_halveGains (l : Launch) : Ct l yX6_halveGains wsX6_halveGains rmX6_halveGains 0 0 false sX6_halveGains := by
  refine ct_of (own := RX6) (cc := cX6_halveGains) (maxL := 1) (ret := (some .int)) (by decide) rfl rfl (by rintro _ _ _ ⟨v, wy, n, ch, H, o, s, r, rfl, ho, hs, rfl, hK⟩; exact Nat.le_of_ble_eq_true rfl) ?_
  intro X av es K hM hE hag hin hnL hsp
  obtain ⟨v, wy, n, ch, H, o, s, r, rfl, ho, hs, rfl, hK⟩ := hsp
  have hf := kX6_halveGains hM hE hnL
  refine wr_ok hf cut_nil 5 0 _ _ _ _ _ ?_
  refine ⟨v, wy, n, ch, H, o, s, r, ho, hs, rfl, ?_⟩
  refine ⟨vAd v, vGa v, rfl, rfl, ?_⟩
  refine ⟨vAd v, hlv (vGa v), rfl, rfl, ?_⟩
  exact hK
def sX6_accesses : gS := fun av es K => ∃ v wy n ch H o s r, av = [.ref 0] ∧ o < 6 ∧ s ≤ 6 ∧ es = wX v wy n ch H o s r ∧ K (some (.int (vAc v))) es
def rmX6_accesses : Room := { frames := 0, cells := 0, slots := 0, locals := 0 }
def pX6_accesses (K : gK) : List (Nat × gO) := [(0, oFR 17 (oALoad 0)), (1, oGet 6 0), (4, oGet 4 5), (7, oRet K 0 0)]
set_option maxRecDepth 100000 in
theorem kX6_accesses {X : gX} {l : Launch} (hM : gM X l cX6_accesses RX6 wsX6_accesses rmX6_accesses) {K : gK} (hE : gR X K 0 0 (some .int)) (hnL : X.2.2.2.2.2.2.2.2.2.2.2.2.2.2.2.2 = 1) : okL X (pX6_accesses K) := by
  obtain ⟨p, l1, e, R, s, m, args, below, meth, c, D, cA, A, ag, ad0, Q, nL⟩ := X
  cases hnL
  refine ⟨ok_FR (ok_aload_n hM 0 dX6_accesses_0 rfl),
    ok_get (C := RX6) (T := TX6) (Nf := 6) hM (fun _ h => List.mem_cons_of_mem _ (List.mem_append_left _ (List.mem_append_right _ h))) rfl 0 (by decide) (List.mem_of_getElem? (i := 1) rfl) rfl dX6_accesses_1,
    ok_get (C := RX4) (T := TX4) (Nf := 6) hM (fun _ h => List.mem_cons_of_mem _ (List.mem_append_right _ h)) rfl 5 (by decide) (List.mem_of_getElem? (i := 2) rfl) rfl dX6_accesses_4,
    ok_ret hM hE dX6_accesses_7,
    trivial⟩
set_option maxRecDepth 100000 in
theorem ctX6_accesses (l : Launch) : Ct l yX6_accesses wsX6_accesses rmX6_accesses 0 0 false sX6_accesses := by
  refine ct_of (own := RX6) (cc := cX6_accesses) (maxL := 1) (ret := (some .int)) (by decide) rfl rfl (by rintro _ _ _ ⟨v, wy, n, ch, H, o, s, r, rfl, ho, hs, rfl, hK⟩; exact Nat.le_of_ble_eq_true rfl) ?_
  intro X av es K hM hE hag hin hnL hsp
  obtain ⟨v, wy, n, ch, H, o, s, r, rfl, ho, hs, rfl, hK⟩ := hsp
  have hf := kX6_accesses hM hE hnL
  refine wr_ok hf cut_nil 5 0 _ _ _ _ _ ?_
  exact hK
def sX6_savedStates : gS := fun av es K => ∃ v wy n ch H o s r, av = [.ref 0] ∧ o < 6 ∧ s ≤ 6 ∧ es = wX v wy n ch H o s r ∧ K (some (.int (nI s))) es
def rmX6_savedStates : Room := { frames := 0, cells := 0, slots := 0, locals := 0 }
def pX6_savedStates (K : gK) : List (Nat × gO) := [(0, oFR 17 (oALoad 0)), (1, oGet 6 2), (4, oGet 1 2), (7, oRet K 0 0)]
set_option maxRecDepth 100000 in
theorem kX6_savedStates {X : gX} {l : Launch} (hM : gM X l cX6_savedStates RX6 wsX6_savedStates rmX6_savedStates) {K : gK} (hE : gR X K 0 0 (some .int)) (hnL : X.2.2.2.2.2.2.2.2.2.2.2.2.2.2.2.2 = 1) : okL X (pX6_savedStates K) := by
  obtain ⟨p, l1, e, R, s, m, args, below, meth, c, D, cA, A, ag, ad0, Q, nL⟩ := X
  cases hnL
  refine ⟨ok_FR (ok_aload_n hM 0 dX6_savedStates_0 rfl),
    ok_get (C := RX6) (T := TX6) (Nf := 6) hM (fun _ h => List.mem_cons_of_mem _ (List.mem_append_left _ (List.mem_append_right _ h))) rfl 2 (by decide) (List.mem_of_getElem? (i := 1) rfl) rfl dX6_savedStates_1,
    ok_get (C := RX1) (T := TX1) (Nf := 3) hM (fun _ h => List.mem_cons_of_mem _ (List.mem_append_right _ h)) rfl 2 (by decide) (List.mem_of_getElem? (i := 2) rfl) rfl dX6_savedStates_4,
    ok_ret hM hE dX6_savedStates_7,
    trivial⟩
set_option maxRecDepth 100000 in
theorem ctX6_savedStates (l : Launch) : Ct l yX6_savedStates wsX6_savedStates rmX6_savedStates 0 0 false sX6_savedStates := by
  refine ct_of (own := RX6) (cc := cX6_savedStates) (maxL := 1) (ret := (some .int)) (by decide) rfl rfl (by rintro _ _ _ ⟨v, wy, n, ch, H, o, s, r, rfl, ho, hs, rfl, hK⟩; exact Nat.le_of_ble_eq_true rfl) ?_
  intro X av es K hM hE hag hin hnL hsp
  obtain ⟨v, wy, n, ch, H, o, s, r, rfl, ho, hs, rfl, hK⟩ := hsp
  have hf := kX6_savedStates hM hE hnL
  refine wr_ok hf cut_nil 5 0 _ _ _ _ _ ?_
  exact hK
def sX6_access : gSX := fun av es K KX => ∃ x y v wy n ch H o s r L, av = [.ref 0, .int x, .int y] ∧ o < 6 ∧ s ≤ 6 ∧ (∀ t, t < 4 → vLe v t = nI (L t) ∧ L t ≤ 2) ∧ es = wX v wy n ch H o s r ∧ (∀ t a, t < 4 → a ≤ 255 → x = nI t → y = nI a → ∀ wy', K (some (.int (nI (acR v t a)))) (wX (acV L v t a) wy' n ch (psH H o s v) (psO o s) (psS s) r)) ∧ (¬ inI x 4 → KX "java/lang/IndexOutOfBoundsException" (wX v wy n ch H o s r)) ∧ (inI x 4 → ¬ inA y 0 255 → KX "java/lang/IllegalArgumentException" (wX v wy n ch H o s r))
def rmX6_access : Room := { frames := 8, cells := 2, slots := 12, locals := 131 }
def pX6_access (K : gK) (KX : gKX) : List (Nat × gO) := [(0, oFR 17 (oILoad 1)), (1, oCallSX 2 12 2 12 1 6 1 [] sX6_requireTenant KX), (4, oFR 17 (oILoad 2)), (5, oConst (nI 0)), (6, oConst (nI 255)), (9, oCallSX 2 12 2 12 1 6 3 [] sX6_requireArgument KX), (12, oFR 17 (oALoad 0)), (13, oGet 6 2), (16, oALoad 0), (17, oGet 6 0), (20, oPushX 2 12), (23, oALoad 0), (24, oILoad 1), (25, oILoad 2), (26, oCallV0 2 12 6 2 sX6_makeAccess), (29, oFR 17 (oRet K 2 12))]
set_option maxRecDepth 100000 in
theorem kX6_access {X : gX} {l : Launch} (hM : gM X l cX6_access RX6 wsX6_access rmX6_access) {K : gK} (hE : gR X K 2 12 (some .int)) {KX : gKX} (hX : gRX X KX 2 12) (hl : l.stackTraces = false) (hnL : X.2.2.2.2.2.2.2.2.2.2.2.2.2.2.2.2 = 3) : okL X (pX6_access K KX) := by
  obtain ⟨p, l1, e, R, s, m, args, below, meth, c, D, cA, A, ag, ad0, Q, nL⟩ := X
  cases hnL
  refine ⟨ok_FR (ok_iload_n hM 1 dX6_access_0 rfl),
    ok_callSX hM hX [] (ctX6_requireTenant l hl) rfl gX6_access_X6_requireTenant rfl rfl rfl (by decide +kernel) (by decide) dX6_access_1,
    ok_FR (ok_iload_n hM 2 dX6_access_4 rfl),
    ok_iconst hM dX6_access_5 rfl,
    ok_sipush hM dX6_access_6 rfl,
    ok_callSX hM hX [] (ctX6_requireArgument l hl) rfl gX6_access_X6_requireArgument rfl rfl rfl (by decide +kernel) (by decide) dX6_access_9,
    ok_FR (ok_aload_n hM 0 dX6_access_12 rfl),
    ok_get (C := RX6) (T := TX6) (Nf := 6) hM (fun _ h => List.mem_cons_of_mem _ (List.mem_append_left _ (List.mem_append_left _ (List.mem_append_left _ (List.mem_append_left _ (List.mem_append_left _ (List.mem_append_left _ (List.mem_append_left _ (List.mem_append_right _ h))))))))) rfl 2 (by decide) (List.mem_of_getElem? (i := 1) rfl) rfl dX6_access_13,
    ok_aload_n hM 0 dX6_access_16 rfl,
    ok_get (C := RX6) (T := TX6) (Nf := 6) hM (fun _ h => List.mem_cons_of_mem _ (List.mem_append_left _ (List.mem_append_left _ (List.mem_append_left _ (List.mem_append_left _ (List.mem_append_left _ (List.mem_append_left _ (List.mem_append_left _ (List.mem_append_right _ h))))))))) rfl 0 (by decide) (List.mem_of_getElem? (i := 2) rfl) rfl dX6_access_17,
    ok_pushX (ok_callV hM idH (ctX1_push l) rfl rfl gX6_access_X1_push rfl rfl rfl (by decide +kernel) (by decide) dX6_access_20),
    ok_aload_n hM 0 dX6_access_23 rfl,
    ok_iload_n hM 1 dX6_access_24 rfl,
    ok_iload_n hM 2 dX6_access_25 rfl,
    ok_callV0 hM (ctX6_makeAccess l) rfl gX6_access_X6_makeAccess rfl rfl rfl (by decide +kernel) (by decide) dX6_access_26,
    ok_FR (ok_ret hM hE dX6_access_29),
    trivial⟩
set_option maxRecDepth 100000 in
theorem ctX6_access (l : Launch) (hl : l.stackTraces = false) : CtX l yX6_access wsX6_access rmX6_access 2 12 sX6_access := by
  refine ctX_of (own := RX6) (cc := cX6_access) (maxL := 3) (ret := (some .int)) (by decide) rfl rfl (by rintro _ _ _ _ ⟨x, y, v, wy, n, ch, H, o, s, r, L, rfl, ho, hs, hL, rfl, hK, hX0, hX1⟩; exact Nat.le_of_ble_eq_true rfl) ?_
  intro X av es K KX hM hE hX hnL hsp
  obtain ⟨x, y, v, wy, n, ch, H, o, s, r, L, rfl, ho, hs, hL, rfl, hK, hX0, hX1⟩ := hsp
  have hf := kX6_access hM hE hX hl hnL
  refine wr_ok hf cut_nil 5 0 _ _ _ _ _ ?_
  refine ⟨_, rfl, rfl, fun t ht et => ?_, fun q => ?_⟩
  · subst et
    refine ⟨_, _, _, 0, 255, rfl, rfl, rfl, by decide, by decide, rfl, fun a ha0 ha ea => ?_, fun q => ?_⟩
    · subst ea
      refine ⟨v, wy, n, ch, H, o, s, r, ho, hs, rfl, ?_⟩
      refine ⟨_, _, t, a, v, wy, _, L, rfl, rfl, rfl, ht, by omega, hL, rfl, fun wy' => ?_⟩
      exact hK t a ht ha rfl rfl wy'
    · exact hX1 ⟨t, ht, rfl⟩ q
  · exact hX0  q
def sX6_flush : gSX := fun av es K KX => ∃ x v wy n ch H o s r, av = [.ref 0, .int x] ∧ o < 6 ∧ s ≤ 6 ∧ es = wX v wy n ch H o s r ∧ (∀ t, t < 4 → x = nI t → K (some (.int (nI (cnt (hol (vHd v) (nI t)) 32)))) (wX (rmV v t) wy n ch (psH H o s v) (psO o s) (psS s) r)) ∧ (¬ inI x 4 → KX "java/lang/IndexOutOfBoundsException" (wX v wy n ch H o s r))
def rmX6_flush : Room := { frames := 8, cells := 1, slots := 6, locals := 131 }
def pX6_flush (K : gK) (KX : gKX) : List (Nat × gO) := [(0, oFR 17 (oILoad 1)), (1, oCallSX 1 6 1 6 1 6 1 [] sX6_requireTenant KX), (4, oFR 17 (oALoad 0)), (5, oGet 6 2), (8, oALoad 0), (9, oGet 6 0), (12, oPushX 1 6), (15, oALoad 0), (16, oGet 6 0), (19, oGet 4 0), (22, oILoad 1), (23, oCallVR 17 1 6 3 1 [2,3,4,5] sX3_removeLinesOf), (26, oFR 17 (oRet K 1 6))]
set_option maxRecDepth 100000 in
theorem kX6_flush {X : gX} {l : Launch} (hM : gM X l cX6_flush RX6 wsX6_flush rmX6_flush) {K : gK} (hE : gR X K 1 6 (some .int)) {KX : gKX} (hX : gRX X KX 1 6) (hl : l.stackTraces = false) (hnL : X.2.2.2.2.2.2.2.2.2.2.2.2.2.2.2.2 = 2) : okL X (pX6_flush K KX) := by
  obtain ⟨p, l1, e, R, s, m, args, below, meth, c, D, cA, A, ag, ad0, Q, nL⟩ := X
  cases hnL
  refine ⟨ok_FR (ok_iload_n hM 1 dX6_flush_0 rfl),
    ok_callSX hM hX [] (ctX6_requireTenant l hl) rfl gX6_flush_X6_requireTenant rfl rfl rfl (by decide +kernel) (by decide) dX6_flush_1,
    ok_FR (ok_aload_n hM 0 dX6_flush_4 rfl),
    ok_get (C := RX6) (T := TX6) (Nf := 6) hM (fun _ h => List.mem_cons_of_mem _ (List.mem_append_left _ (List.mem_append_left _ (List.mem_append_left _ (List.mem_append_left _ (List.mem_append_left _ (List.mem_append_right _ h))))))) rfl 2 (by decide) (List.mem_of_getElem? (i := 1) rfl) rfl dX6_flush_5,
    ok_aload_n hM 0 dX6_flush_8 rfl,
    ok_get (C := RX6) (T := TX6) (Nf := 6) hM (fun _ h => List.mem_cons_of_mem _ (List.mem_append_left _ (List.mem_append_left _ (List.mem_append_left _ (List.mem_append_left _ (List.mem_append_left _ (List.mem_append_right _ h))))))) rfl 0 (by decide) (List.mem_of_getElem? (i := 2) rfl) rfl dX6_flush_9,
    ok_pushX (ok_callV hM idH (ctX1_push l) rfl rfl gX6_flush_X1_push rfl rfl rfl (by decide +kernel) (by decide) dX6_flush_12),
    ok_aload_n hM 0 dX6_flush_15 rfl,
    ok_get (C := RX6) (T := TX6) (Nf := 6) hM (fun _ h => List.mem_cons_of_mem _ (List.mem_append_left _ (List.mem_append_left _ (List.mem_append_left _ (List.mem_append_left _ (List.mem_append_left _ (List.mem_append_right _ h))))))) rfl 0 (by decide) (List.mem_of_getElem? (i := 2) rfl) rfl dX6_flush_16,
    ok_get (C := RX4) (T := TX4) (Nf := 6) hM (fun _ h => List.mem_cons_of_mem _ (List.mem_append_left _ (List.mem_append_left _ (List.mem_append_left _ (List.mem_append_left _ (List.mem_append_right _ h)))))) rfl 0 (by decide) (List.mem_of_getElem? (i := 3) rfl) rfl dX6_flush_19,
    ok_iload_n hM 1 dX6_flush_22 rfl,
    ok_R (ok_callV hM [2,3,4,5] (ctX3_removeLinesOf l) rfl rfl gX6_flush_X3_removeLinesOf rfl rfl rfl (by decide +kernel) (by decide) dX6_flush_23),
    ok_FR (ok_ret hM hE dX6_flush_26),
    trivial⟩
set_option maxRecDepth 100000 in
theorem ctX6_flush (l : Launch) (hl : l.stackTraces = false) : CtX l yX6_flush wsX6_flush rmX6_flush 1 6 sX6_flush := by
  refine ctX_of (own := RX6) (cc := cX6_flush) (maxL := 2) (ret := (some .int)) (by decide) rfl rfl (by rintro _ _ _ _ ⟨x, v, wy, n, ch, H, o, s, r, rfl, ho, hs, rfl, hK, hX0⟩; exact Nat.le_of_ble_eq_true rfl) ?_
  intro X av es K KX hM hE hX hnL hsp
  obtain ⟨x, v, wy, n, ch, H, o, s, r, rfl, ho, hs, rfl, hK, hX0⟩ := hsp
  have hf := kX6_flush hM hE hX hl hnL
  refine wr_ok hf cut_nil 5 0 _ _ _ _ _ ?_
  refine ⟨_, rfl, rfl, fun t ht et => ?_, fun q => ?_⟩
  · subst et
    refine ⟨v, wy, n, ch, H, o, s, r, ho, hs, rfl, ?_⟩
    refine ⟨_, vOw v, vHd v, vSt v, rfl, rfl, ?_⟩
    exact hK t ht rfl
  · exact hX0  q
def sX6_giveWay : gSX := fun av es K KX => ∃ x y v wy n ch H o s r, av = [.ref 0, .int x, .int y] ∧ o < 6 ∧ s ≤ 6 ∧ es = wX v wy n ch H o s r ∧ (∀ w t, w < 8 → t < 4 → x = nI w → y = nI t → K (some (.int (vOw v w))) (wX (upd (vOw v) w (nI t), vHd v, vSt v, vAd v, vGa v, vLe v, vCo v, vEp v, vAc v) wy n ch (psH H o s v) (psO o s) (psS s) r)) ∧ (¬ inI x 8 → KX "java/lang/IndexOutOfBoundsException" (wX v wy n ch H o s r)) ∧ (inI x 8 → ¬ inI y 4 → KX "java/lang/IndexOutOfBoundsException" (wX v wy n ch H o s r))
def rmX6_giveWay : Room := { frames := 8, cells := 2, slots := 12, locals := 131 }
def pX6_giveWay (K : gK) (KX : gKX) : List (Nat × gO) := [(0, oFR 17 (oILoad 1)), (1, oConst (nI 8)), (3, oCallSX 2 12 2 12 1 6 2 [] sX6_requireIndex KX), (6, oFR 17 (oILoad 2)), (7, oCallSX 2 12 2 12 1 6 1 [] sX6_requireTenant KX), (10, oFR 17 (oALoad 0)), (11, oGet 6 2), (14, oALoad 0), (15, oGet 6 0), (18, oPushX 2 12), (21, oALoad 0), (22, oGet 6 0), (25, oGet 4 0), (28, oGet 3 0), (31, oILoad 1), (32, oIALd 0), (33, oIStore 4 3), (34, oFR 17 (oALoad 0)), (35, oGet 6 0), (38, oGet 4 0), (41, oGet 3 0), (44, oILoad 1), (45, oILoad 2), (46, oIASt), (47, oFR 17 (oILoad 3)), (48, oRet K 2 12)]
set_option maxRecDepth 100000 in
theorem kX6_giveWay {X : gX} {l : Launch} (hM : gM X l cX6_giveWay RX6 wsX6_giveWay rmX6_giveWay) {K : gK} (hE : gR X K 2 12 (some .int)) {KX : gKX} (hX : gRX X KX 2 12) (hl : l.stackTraces = false) (hnL : X.2.2.2.2.2.2.2.2.2.2.2.2.2.2.2.2 = 4) : okL X (pX6_giveWay K KX) := by
  obtain ⟨p, l1, e, R, s, m, args, below, meth, c, D, cA, A, ag, ad0, Q, nL⟩ := X
  cases hnL
  refine ⟨ok_FR (ok_iload_n hM 1 dX6_giveWay_0 rfl),
    ok_bipush hM dX6_giveWay_1 rfl,
    ok_callSX hM hX [] (ctX6_requireIndex l hl) rfl gX6_giveWay_X6_requireIndex rfl rfl rfl (by decide +kernel) (by decide) dX6_giveWay_3,
    ok_FR (ok_iload_n hM 2 dX6_giveWay_6 rfl),
    ok_callSX hM hX [] (ctX6_requireTenant l hl) rfl gX6_giveWay_X6_requireTenant rfl rfl rfl (by decide +kernel) (by decide) dX6_giveWay_7,
    ok_FR (ok_aload_n hM 0 dX6_giveWay_10 rfl),
    ok_get (C := RX6) (T := TX6) (Nf := 6) hM (fun _ h => List.mem_cons_of_mem _ (List.mem_append_left _ (List.mem_append_left _ (List.mem_append_left _ (List.mem_append_left _ (List.mem_append_left _ (List.mem_append_right _ h))))))) rfl 2 (by decide) (List.mem_of_getElem? (i := 1) rfl) rfl dX6_giveWay_11,
    ok_aload_n hM 0 dX6_giveWay_14 rfl,
    ok_get (C := RX6) (T := TX6) (Nf := 6) hM (fun _ h => List.mem_cons_of_mem _ (List.mem_append_left _ (List.mem_append_left _ (List.mem_append_left _ (List.mem_append_left _ (List.mem_append_left _ (List.mem_append_right _ h))))))) rfl 0 (by decide) (List.mem_of_getElem? (i := 2) rfl) rfl dX6_giveWay_15,
    ok_pushX (ok_callV hM idH (ctX1_push l) rfl rfl gX6_giveWay_X1_push rfl rfl rfl (by decide +kernel) (by decide) dX6_giveWay_18),
    ok_aload_n hM 0 dX6_giveWay_21 rfl,
    ok_get (C := RX6) (T := TX6) (Nf := 6) hM (fun _ h => List.mem_cons_of_mem _ (List.mem_append_left _ (List.mem_append_left _ (List.mem_append_left _ (List.mem_append_left _ (List.mem_append_left _ (List.mem_append_right _ h))))))) rfl 0 (by decide) (List.mem_of_getElem? (i := 2) rfl) rfl dX6_giveWay_22,
    ok_get (C := RX4) (T := TX4) (Nf := 6) hM (fun _ h => List.mem_cons_of_mem _ (List.mem_append_left _ (List.mem_append_left _ (List.mem_append_left _ (List.mem_append_left _ (List.mem_append_right _ h)))))) rfl 0 (by decide) (List.mem_of_getElem? (i := 3) rfl) rfl dX6_giveWay_25,
    ok_get (C := RX3) (T := TX3) (Nf := 3) hM (fun _ h => List.mem_cons_of_mem _ (List.mem_append_left _ (List.mem_append_left _ (List.mem_append_left _ (List.mem_append_right _ h))))) rfl 0 (by decide) (List.mem_of_getElem? (i := 4) rfl) rfl dX6_giveWay_28,
    ok_iload_n hM 1 dX6_giveWay_31 rfl,
    ok_iald hM dX6_giveWay_32,
    ok_istore_n hM 3 dX6_giveWay_33 rfl,
    ok_FR (ok_aload_n hM 0 dX6_giveWay_34 rfl),
    ok_get (C := RX6) (T := TX6) (Nf := 6) hM (fun _ h => List.mem_cons_of_mem _ (List.mem_append_left _ (List.mem_append_left _ (List.mem_append_left _ (List.mem_append_left _ (List.mem_append_left _ (List.mem_append_right _ h))))))) rfl 0 (by decide) (List.mem_of_getElem? (i := 2) rfl) rfl dX6_giveWay_35,
    ok_get (C := RX4) (T := TX4) (Nf := 6) hM (fun _ h => List.mem_cons_of_mem _ (List.mem_append_left _ (List.mem_append_left _ (List.mem_append_left _ (List.mem_append_left _ (List.mem_append_right _ h)))))) rfl 0 (by decide) (List.mem_of_getElem? (i := 3) rfl) rfl dX6_giveWay_38,
    ok_get (C := RX3) (T := TX3) (Nf := 3) hM (fun _ h => List.mem_cons_of_mem _ (List.mem_append_left _ (List.mem_append_left _ (List.mem_append_left _ (List.mem_append_right _ h))))) rfl 0 (by decide) (List.mem_of_getElem? (i := 4) rfl) rfl dX6_giveWay_41,
    ok_iload_n hM 1 dX6_giveWay_44 rfl,
    ok_iload_n hM 2 dX6_giveWay_45 rfl,
    ok_iast hM dX6_giveWay_46,
    ok_FR (ok_iload_n hM 3 dX6_giveWay_47 rfl),
    ok_ret hM hE dX6_giveWay_48,
    trivial⟩
set_option maxRecDepth 100000 in
theorem ctX6_giveWay (l : Launch) (hl : l.stackTraces = false) : CtX l yX6_giveWay wsX6_giveWay rmX6_giveWay 2 12 sX6_giveWay := by
  refine ctX_of (own := RX6) (cc := cX6_giveWay) (maxL := 4) (ret := (some .int)) (by decide) rfl rfl (by rintro _ _ _ _ ⟨x, y, v, wy, n, ch, H, o, s, r, rfl, ho, hs, rfl, hK, hX0, hX1⟩; exact Nat.le_of_ble_eq_true rfl) ?_
  intro X av es K KX hM hE hX hnL hsp
  obtain ⟨x, y, v, wy, n, ch, H, o, s, r, rfl, ho, hs, rfl, hK, hX0, hX1⟩ := hsp
  have hf := kX6_giveWay hM hE hX hl hnL
  refine wr_ok hf cut_nil 5 0 _ _ _ _ _ ?_
  refine ⟨_, _, 8, rfl, rfl, by decide, rfl, fun w hw ew => ?_, fun q => ?_⟩
  · subst ew
    refine ⟨_, rfl, rfl, fun t ht et => ?_, fun q => ?_⟩
    · subst et
      refine ⟨v, wy, n, ch, H, o, s, r, ho, hs, rfl, ?_⟩
      refine ⟨w, rfl, hw, ?_⟩
      refine ⟨w, rfl, hw, ?_⟩
      exact hK w t hw ht rfl rfl
    · exact hX1 ⟨w, hw, rfl⟩ q
  · exact hX0  q
def sX6_setLeast : gSX := fun av es K KX => ∃ x y v wy n ch H o s r, av = [.ref 0, .int x, .int y] ∧ o < 6 ∧ s ≤ 6 ∧ es = wX v wy n ch H o s r ∧ (∀ t q, t < 4 → q ≤ 2 → x = nI t → y = nI q → K (some (.int (vLe v t))) (wX (vOw v, vHd v, vSt v, vAd v, vGa v, upd (vLe v) t (nI q), vCo v, vEp v, vAc v) wy n ch (psH H o s v) (psO o s) (psS s) r)) ∧ (¬ inI x 4 → KX "java/lang/IndexOutOfBoundsException" (wX v wy n ch H o s r)) ∧ (inI x 4 → ¬ inA y 0 2 → KX "java/lang/IllegalArgumentException" (wX v wy n ch H o s r))
def rmX6_setLeast : Room := { frames := 8, cells := 2, slots := 12, locals := 131 }
def pX6_setLeast (K : gK) (KX : gKX) : List (Nat × gO) := [(0, oFR 17 (oILoad 1)), (1, oCallSX 2 12 2 12 1 6 1 [] sX6_requireTenant KX), (4, oFR 17 (oILoad 2)), (5, oConst (nI 0)), (6, oConst (nI 2)), (7, oCallSX 2 12 2 12 1 6 3 [] sX6_requireArgument KX), (10, oFR 17 (oALoad 0)), (11, oGet 6 2), (14, oALoad 0), (15, oGet 6 0), (18, oPushX 2 12), (21, oALoad 0), (22, oGet 6 0), (25, oGet 4 2), (28, oILoad 1), (29, oIALd 0), (30, oIStore 4 3), (31, oFR 17 (oALoad 0)), (32, oGet 6 0), (35, oGet 4 2), (38, oILoad 1), (39, oILoad 2), (40, oIASt), (41, oFR 17 (oILoad 3)), (42, oRet K 2 12)]
set_option maxRecDepth 100000 in
theorem kX6_setLeast {X : gX} {l : Launch} (hM : gM X l cX6_setLeast RX6 wsX6_setLeast rmX6_setLeast) {K : gK} (hE : gR X K 2 12 (some .int)) {KX : gKX} (hX : gRX X KX 2 12) (hl : l.stackTraces = false) (hnL : X.2.2.2.2.2.2.2.2.2.2.2.2.2.2.2.2 = 4) : okL X (pX6_setLeast K KX) := by
  obtain ⟨p, l1, e, R, s, m, args, below, meth, c, D, cA, A, ag, ad0, Q, nL⟩ := X
  cases hnL
  refine ⟨ok_FR (ok_iload_n hM 1 dX6_setLeast_0 rfl),
    ok_callSX hM hX [] (ctX6_requireTenant l hl) rfl gX6_setLeast_X6_requireTenant rfl rfl rfl (by decide +kernel) (by decide) dX6_setLeast_1,
    ok_FR (ok_iload_n hM 2 dX6_setLeast_4 rfl),
    ok_iconst hM dX6_setLeast_5 rfl,
    ok_iconst hM dX6_setLeast_6 rfl,
    ok_callSX hM hX [] (ctX6_requireArgument l hl) rfl gX6_setLeast_X6_requireArgument rfl rfl rfl (by decide +kernel) (by decide) dX6_setLeast_7,
    ok_FR (ok_aload_n hM 0 dX6_setLeast_10 rfl),
    ok_get (C := RX6) (T := TX6) (Nf := 6) hM (fun _ h => List.mem_cons_of_mem _ (List.mem_append_left _ (List.mem_append_left _ (List.mem_append_left _ (List.mem_append_left _ (List.mem_append_left _ (List.mem_append_left _ (List.mem_append_right _ h)))))))) rfl 2 (by decide) (List.mem_of_getElem? (i := 1) rfl) rfl dX6_setLeast_11,
    ok_aload_n hM 0 dX6_setLeast_14 rfl,
    ok_get (C := RX6) (T := TX6) (Nf := 6) hM (fun _ h => List.mem_cons_of_mem _ (List.mem_append_left _ (List.mem_append_left _ (List.mem_append_left _ (List.mem_append_left _ (List.mem_append_left _ (List.mem_append_left _ (List.mem_append_right _ h)))))))) rfl 0 (by decide) (List.mem_of_getElem? (i := 2) rfl) rfl dX6_setLeast_15,
    ok_pushX (ok_callV hM idH (ctX1_push l) rfl rfl gX6_setLeast_X1_push rfl rfl rfl (by decide +kernel) (by decide) dX6_setLeast_18),
    ok_aload_n hM 0 dX6_setLeast_21 rfl,
    ok_get (C := RX6) (T := TX6) (Nf := 6) hM (fun _ h => List.mem_cons_of_mem _ (List.mem_append_left _ (List.mem_append_left _ (List.mem_append_left _ (List.mem_append_left _ (List.mem_append_left _ (List.mem_append_left _ (List.mem_append_right _ h)))))))) rfl 0 (by decide) (List.mem_of_getElem? (i := 2) rfl) rfl dX6_setLeast_22,
    ok_get (C := RX4) (T := TX4) (Nf := 6) hM (fun _ h => List.mem_cons_of_mem _ (List.mem_append_left _ (List.mem_append_left _ (List.mem_append_left _ (List.mem_append_left _ (List.mem_append_left _ (List.mem_append_right _ h))))))) rfl 2 (by decide) (List.mem_of_getElem? (i := 3) rfl) rfl dX6_setLeast_25,
    ok_iload_n hM 1 dX6_setLeast_28 rfl,
    ok_iald hM dX6_setLeast_29,
    ok_istore_n hM 3 dX6_setLeast_30 rfl,
    ok_FR (ok_aload_n hM 0 dX6_setLeast_31 rfl),
    ok_get (C := RX6) (T := TX6) (Nf := 6) hM (fun _ h => List.mem_cons_of_mem _ (List.mem_append_left _ (List.mem_append_left _ (List.mem_append_left _ (List.mem_append_left _ (List.mem_append_left _ (List.mem_append_left _ (List.mem_append_right _ h)))))))) rfl 0 (by decide) (List.mem_of_getElem? (i := 2) rfl) rfl dX6_setLeast_32,
    ok_get (C := RX4) (T := TX4) (Nf := 6) hM (fun _ h => List.mem_cons_of_mem _ (List.mem_append_left _ (List.mem_append_left _ (List.mem_append_left _ (List.mem_append_left _ (List.mem_append_left _ (List.mem_append_right _ h))))))) rfl 2 (by decide) (List.mem_of_getElem? (i := 3) rfl) rfl dX6_setLeast_35,
    ok_iload_n hM 1 dX6_setLeast_38 rfl,
    ok_iload_n hM 2 dX6_setLeast_39 rfl,
    ok_iast hM dX6_setLeast_40,
    ok_FR (ok_iload_n hM 3 dX6_setLeast_41 rfl),
    ok_ret hM hE dX6_setLeast_42,
    trivial⟩
set_option maxRecDepth 100000 in
theorem ctX6_setLeast (l : Launch) (hl : l.stackTraces = false) : CtX l yX6_setLeast wsX6_setLeast rmX6_setLeast 2 12 sX6_setLeast := by
  refine ctX_of (own := RX6) (cc := cX6_setLeast) (maxL := 4) (ret := (some .int)) (by decide) rfl rfl (by rintro _ _ _ _ ⟨x, y, v, wy, n, ch, H, o, s, r, rfl, ho, hs, rfl, hK, hX0, hX1⟩; exact Nat.le_of_ble_eq_true rfl) ?_
  intro X av es K KX hM hE hX hnL hsp
  obtain ⟨x, y, v, wy, n, ch, H, o, s, r, rfl, ho, hs, rfl, hK, hX0, hX1⟩ := hsp
  have hf := kX6_setLeast hM hE hX hl hnL
  refine wr_ok hf cut_nil 5 0 _ _ _ _ _ ?_
  refine ⟨_, rfl, rfl, fun t ht et => ?_, fun q => ?_⟩
  · subst et
    refine ⟨_, _, _, 0, 2, rfl, rfl, rfl, by decide, by decide, rfl, fun q hq0 hq eq => ?_, fun q => ?_⟩
    · subst eq
      refine ⟨v, wy, n, ch, H, o, s, r, ho, hs, rfl, ?_⟩
      refine ⟨t, rfl, ht, ?_⟩
      refine ⟨t, rfl, ht, ?_⟩
      exact hK t q ht hq rfl rfl
    · exact hX1 ⟨t, ht, rfl⟩ q
  · exact hX0  q
def sX6_owner : gSX := fun av es K KX => ∃ x v wy n ch H o s r, av = [.ref 0, .int x] ∧ o < 6 ∧ s ≤ 6 ∧ es = wX v wy n ch H o s r ∧ (∀ w, w < 8 → x = nI w → K (some (.int (vOw v w))) es) ∧ (¬ inI x 8 → KX "java/lang/IndexOutOfBoundsException" (wX v wy n ch H o s r))
def rmX6_owner : Room := { frames := 7, cells := 1, slots := 6, locals := 111 }
def pX6_owner (K : gK) (KX : gKX) : List (Nat × gO) := [(0, oFR 17 (oILoad 1)), (1, oConst (nI 8)), (3, oCallSX 1 6 1 6 1 6 2 [] sX6_requireIndex KX), (6, oFR 17 (oALoad 0)), (7, oGet 6 0), (10, oGet 4 0), (13, oGet 3 0), (16, oILoad 1), (17, oIALd 0), (18, oRet K 1 6)]
set_option maxRecDepth 100000 in
theorem kX6_owner {X : gX} {l : Launch} (hM : gM X l cX6_owner RX6 wsX6_owner rmX6_owner) {K : gK} (hE : gR X K 1 6 (some .int)) {KX : gKX} (hX : gRX X KX 1 6) (hl : l.stackTraces = false) (hnL : X.2.2.2.2.2.2.2.2.2.2.2.2.2.2.2.2 = 2) : okL X (pX6_owner K KX) := by
  obtain ⟨p, l1, e, R, s, m, args, below, meth, c, D, cA, A, ag, ad0, Q, nL⟩ := X
  cases hnL
  refine ⟨ok_FR (ok_iload_n hM 1 dX6_owner_0 rfl),
    ok_bipush hM dX6_owner_1 rfl,
    ok_callSX hM hX [] (ctX6_requireIndex l hl) rfl gX6_owner_X6_requireIndex rfl rfl rfl (by decide +kernel) (by decide) dX6_owner_3,
    ok_FR (ok_aload_n hM 0 dX6_owner_6 rfl),
    ok_get (C := RX6) (T := TX6) (Nf := 6) hM (fun _ h => List.mem_cons_of_mem _ (List.mem_append_left _ (List.mem_append_left _ (List.mem_append_left _ (List.mem_append_right _ h))))) rfl 0 (by decide) (List.mem_of_getElem? (i := 1) rfl) rfl dX6_owner_7,
    ok_get (C := RX4) (T := TX4) (Nf := 6) hM (fun _ h => List.mem_cons_of_mem _ (List.mem_append_left _ (List.mem_append_left _ (List.mem_append_right _ h)))) rfl 0 (by decide) (List.mem_of_getElem? (i := 2) rfl) rfl dX6_owner_10,
    ok_get (C := RX3) (T := TX3) (Nf := 3) hM (fun _ h => List.mem_cons_of_mem _ (List.mem_append_left _ (List.mem_append_right _ h))) rfl 0 (by decide) (List.mem_of_getElem? (i := 3) rfl) rfl dX6_owner_13,
    ok_iload_n hM 1 dX6_owner_16 rfl,
    ok_iald hM dX6_owner_17,
    ok_ret hM hE dX6_owner_18,
    trivial⟩
set_option maxRecDepth 100000 in
theorem ctX6_owner (l : Launch) (hl : l.stackTraces = false) : CtX l yX6_owner wsX6_owner rmX6_owner 1 6 sX6_owner := by
  refine ctX_of (own := RX6) (cc := cX6_owner) (maxL := 2) (ret := (some .int)) (by decide) rfl rfl (by rintro _ _ _ _ ⟨x, v, wy, n, ch, H, o, s, r, rfl, ho, hs, rfl, hK, hX0⟩; exact Nat.le_of_ble_eq_true rfl) ?_
  intro X av es K KX hM hE hX hnL hsp
  obtain ⟨x, v, wy, n, ch, H, o, s, r, rfl, ho, hs, rfl, hK, hX0⟩ := hsp
  have hf := kX6_owner hM hE hX hl hnL
  refine wr_ok hf cut_nil 5 0 _ _ _ _ _ ?_
  refine ⟨_, _, 8, rfl, rfl, by decide, rfl, fun w hw ew => ?_, fun q => ?_⟩
  · subst ew
    exact ⟨w, rfl, hw, hK w hw rfl⟩
  · exact hX0  q
def sX6_waysOf : gSX := fun av es K KX => ∃ x v wy n ch H o s r, av = [.ref 0, .int x] ∧ o < 6 ∧ s ≤ 6 ∧ es = wX v wy n ch H o s r ∧ (∀ t, t < 4 → x = nI t → K (some (.int (nI (fOwn (vOw v) (nI t))))) es) ∧ (¬ inI x 4 → KX "java/lang/IndexOutOfBoundsException" (wX v wy n ch H o s r))
def rmX6_waysOf : Room := { frames := 8, cells := 1, slots := 6, locals := 131 }
def pX6_waysOf (K : gK) (KX : gKX) : List (Nat × gO) := [(0, oFR 17 (oILoad 1)), (1, oCallSX 1 6 1 6 1 6 1 [] sX6_requireTenant KX), (4, oFR 17 (oALoad 0)), (5, oGet 6 0), (8, oGet 4 0), (11, oILoad 1), (12, oCallVR 17 1 6 3 1 [2,3,4,5] sX3_ownedWays), (15, oFR 17 (oRet K 1 6))]
set_option maxRecDepth 100000 in
theorem kX6_waysOf {X : gX} {l : Launch} (hM : gM X l cX6_waysOf RX6 wsX6_waysOf rmX6_waysOf) {K : gK} (hE : gR X K 1 6 (some .int)) {KX : gKX} (hX : gRX X KX 1 6) (hl : l.stackTraces = false) (hnL : X.2.2.2.2.2.2.2.2.2.2.2.2.2.2.2.2 = 2) : okL X (pX6_waysOf K KX) := by
  obtain ⟨p, l1, e, R, s, m, args, below, meth, c, D, cA, A, ag, ad0, Q, nL⟩ := X
  cases hnL
  refine ⟨ok_FR (ok_iload_n hM 1 dX6_waysOf_0 rfl),
    ok_callSX hM hX [] (ctX6_requireTenant l hl) rfl gX6_waysOf_X6_requireTenant rfl rfl rfl (by decide +kernel) (by decide) dX6_waysOf_1,
    ok_FR (ok_aload_n hM 0 dX6_waysOf_4 rfl),
    ok_get (C := RX6) (T := TX6) (Nf := 6) hM (fun _ h => List.mem_cons_of_mem _ (List.mem_append_left _ (List.mem_append_left _ (List.mem_append_left _ (List.mem_append_right _ h))))) rfl 0 (by decide) (List.mem_of_getElem? (i := 1) rfl) rfl dX6_waysOf_5,
    ok_get (C := RX4) (T := TX4) (Nf := 6) hM (fun _ h => List.mem_cons_of_mem _ (List.mem_append_left _ (List.mem_append_left _ (List.mem_append_right _ h)))) rfl 0 (by decide) (List.mem_of_getElem? (i := 2) rfl) rfl dX6_waysOf_8,
    ok_iload_n hM 1 dX6_waysOf_11 rfl,
    ok_R (ok_callV hM [2,3,4,5] (ctX3_ownedWays l) rfl rfl gX6_waysOf_X3_ownedWays rfl rfl rfl (by decide +kernel) (by decide) dX6_waysOf_12),
    ok_FR (ok_ret hM hE dX6_waysOf_15),
    trivial⟩
set_option maxRecDepth 100000 in
theorem ctX6_waysOf (l : Launch) (hl : l.stackTraces = false) : CtX l yX6_waysOf wsX6_waysOf rmX6_waysOf 1 6 sX6_waysOf := by
  refine ctX_of (own := RX6) (cc := cX6_waysOf) (maxL := 2) (ret := (some .int)) (by decide) rfl rfl (by rintro _ _ _ _ ⟨x, v, wy, n, ch, H, o, s, r, rfl, ho, hs, rfl, hK, hX0⟩; exact Nat.le_of_ble_eq_true rfl) ?_
  intro X av es K KX hM hE hX hnL hsp
  obtain ⟨x, v, wy, n, ch, H, o, s, r, rfl, ho, hs, rfl, hK, hX0⟩ := hsp
  have hf := kX6_waysOf hM hE hX hl hnL
  refine wr_ok hf cut_nil 5 0 _ _ _ _ _ ?_
  refine ⟨_, rfl, rfl, fun t ht et => ?_, fun q => ?_⟩
  · subst et
    refine ⟨_, vOw v, vHd v, vSt v, rfl, rfl, ?_⟩
    exact hK t ht rfl
  · exact hX0  q
end MQ4

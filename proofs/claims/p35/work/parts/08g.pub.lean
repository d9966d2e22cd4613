/-! PartitionedCache: sums and texts. -/
section MQ6
def mxD (L : Nat → Nat) (v : gV) : Nat → Int32 := fun t => if mvD L v t < nI 0 then nI 0 else mvD L v t
def sX6_movesLeft : gS := fun av es K => ∃ v wy n ch H o s r L, av = [.ref 0] ∧ o < 6 ∧ s ≤ 6 ∧ (∀ t, t < 4 → vLe v t = nI (L t) ∧ L t ≤ 2) ∧ es = wX v wy n ch H o s r ∧ K (some (.int (sumI (mxD L v) 4))) (wX v (nF (tgt L (vGa v))) n ch H o s r)
def rmX6_movesLeft : Room := { frames := 3, cells := 0, slots := 0, locals := 73 }
def pX6_movesLeft (K : gK) : List (Nat × gO) := [(0, oFR 17 (oALoad 0)), (1, oGet 6 1), (4, oALoad 0), (5, oGet 6 0), (8, oCallVR 17 0 0 5 1 [11,12,1,2,3,4,5,6,7,8,9,10] sX5_compute), (11, oConst (nI 0)), (12, oFR 17 (oIStore 3 1)), (13, oConst (nI 0)), (14, oFR 17 (oIStore 3 2)), (15, oFR 17 (oILoad 2)), (16, oConst (nI 4)), (17, oICmp_ge 38), (20, oILoad 1), (21, oALoad 0), (22, oILoad 2), (23, oCallV0 0 0 6 1 sX6_deficitOf), (26, oConst (nI 0)), (27, oFR 17 (oMax 73 0 0)), (30, oAdd), (31, oIStore 3 1), (32, oFR 17 (oIInc 3 2 (nI 1))), (35, oGoto 15), (38, oFR 17 (oILoad 1)), (39, oRet K 0 0)]
set_option maxRecDepth 100000 in
theorem kX6_movesLeft {X : gX} {l : Launch} (hM : gM X l cX6_movesLeft RX6 wsX6_movesLeft rmX6_movesLeft) {K : gK} (hE : gR X K 0 0 (some .int)) (hnL : X.2.2.2.2.2.2.2.2.2.2.2.2.2.2.2.2 = 3) : okL X (pX6_movesLeft K) := by
  obtain ⟨p, l1, e, R, s, m, args, below, meth, c, D, cA, A, ag, ad0, Q, nL⟩ := X
  cases hnL
  refine ⟨ok_FR (ok_aload_n hM 0 dX6_movesLeft_0 rfl),
    ok_get (C := RX6) (T := TX6) (Nf := 6) hM (fun _ h => List.mem_cons_of_mem _ (List.mem_append_left _ (List.mem_append_left _ (List.mem_append_left _ (List.mem_append_left _ (List.mem_append_right _ h)))))) rfl 1 (by decide) (List.mem_of_getElem? (i := 1) rfl) rfl dX6_movesLeft_1,
    ok_aload_n hM 0 dX6_movesLeft_4 rfl,
    ok_get (C := RX6) (T := TX6) (Nf := 6) hM (fun _ h => List.mem_cons_of_mem _ (List.mem_append_left _ (List.mem_append_left _ (List.mem_append_left _ (List.mem_append_left _ (List.mem_append_right _ h)))))) rfl 0 (by decide) (List.mem_of_getElem? (i := 2) rfl) rfl dX6_movesLeft_5,
    ok_R (ok_callV hM [11,12,1,2,3,4,5,6,7,8,9,10] (ctX5_compute l) rfl rfl gX6_movesLeft_X5_compute rfl rfl rfl (by decide +kernel) (by decide) dX6_movesLeft_8),
    ok_iconst hM dX6_movesLeft_11 rfl,
    ok_FR (ok_istore_n hM 1 dX6_movesLeft_12 rfl),
    ok_iconst hM dX6_movesLeft_13 rfl,
    ok_FR (ok_istore_n hM 2 dX6_movesLeft_14 rfl),
    ok_FR (ok_iload_n hM 2 dX6_movesLeft_15 rfl),
    ok_iconst hM dX6_movesLeft_16 rfl,
    ok_icmp_ge hM 38 dX6_movesLeft_17 (by decide),
    ok_iload_n hM 1 dX6_movesLeft_20 rfl,
    ok_aload_n hM 0 dX6_movesLeft_21 rfl,
    ok_iload_n hM 2 dX6_movesLeft_22 rfl,
    ok_callV0 hM (ctX6_deficitOf l) rfl gX6_movesLeft_X6_deficitOf rfl rfl rfl (by decide +kernel) (by decide) dX6_movesLeft_23,
    ok_iconst hM dX6_movesLeft_26 rfl,
    ok_FR (ok_max hM (List.mem_of_getElem? (i := 3) rfl) (by decide +kernel) (by decide +kernel) (by decide +kernel) (by decide) dX6_movesLeft_27),
    ok_iadd hM dX6_movesLeft_30,
    ok_istore_n hM 1 dX6_movesLeft_31 rfl,
    ok_FR (ok_iinc hM 2 dX6_movesLeft_32 rfl),
    ok_goto hM 15 dX6_movesLeft_35 (by decide),
    ok_FR (ok_iload_n hM 1 dX6_movesLeft_38 rfl),
    ok_ret hM hE dX6_movesLeft_39,
    trivial⟩
set_option maxRecDepth 100000 in
theorem ctX6_movesLeft (l : Launch) : Ct l yX6_movesLeft wsX6_movesLeft rmX6_movesLeft 0 0 false sX6_movesLeft := by
  refine ct_of (own := RX6) (cc := cX6_movesLeft) (maxL := 3) (ret := (some .int)) (by decide) rfl rfl (by rintro _ _ _ ⟨v, wy, n, ch, H, o, s, r, L, rfl, ho, hs, hL, rfl, hK⟩; exact Nat.le_of_ble_eq_true rfl) ?_
  intro X av es K hM hE hag hin hnL hsp
  obtain ⟨v, wy, n, ch, H, o, s, r, L, rfl, ho, hs, hL, rfl, hK⟩ := hsp
  have hf := kX6_movesLeft hM hE hnL
  refine g_with (X := X) 15 [0, 1, 2] (fun μ vs es k n9 => ∃ i : Nat, μ = 4 - i ∧ i ≤ 4 ∧ vs = [.ref 0, .int (sumI (mxD L v) i), .int (nI i)] ∧ es = wX v (nF (tgt L (vGa v))) n ch H o s r ∧ k = 0 ∧ n9 = 0) cut_nil (fun μ hc vs es k n9 hI => ?_) (fun hc => ?_)
  · obtain ⟨i, rfl, hi, rfl, rfl, rfl, rfl⟩ := hI
    refine g_go hf hc 5 ?_
    refine ⟨fun h2 => ?_, fun h2 => ?_⟩
    · have h4 : i = 4 := by
        rw [nI_leI (by decide) (by omega)] at h2
        omega
      subst h4
      exact hK
    · have h4 : i < 4 := by
        rw [nI_leI (by decide) (by omega)] at h2
        omega
      refine ⟨_, i, v, _, _, rfl, rfl, h4, rfl, ?_⟩
      exact ⟨4 - (i + 1), by omega, i + 1, rfl, by omega, by rw [nI_add]; rfl, rfl, rfl, rfl⟩
  · refine wr_ok hf hc 5 0 _ _ _ _ _ ?_
    refine ⟨wy, v, L, rfl, hL, rfl, ?_⟩
    exact ⟨4, 0, rfl, by omega, rfl, rfl, rfl, rfl⟩
def liR (v : gV) (t : Nat) (b : Int32) : Int32 := nI (sumN (lnW (vHd v) (nI t)) 8) - (if b = 0 then nI 0 else nI (sumN (lnO (vOw v) (vHd v) (nI t)) 8))
def sX6_lines : gSX := fun av es K KX => ∃ x y v wy n ch H o s r, av = [.ref 0, .int x, .int y] ∧ o < 6 ∧ s ≤ 6 ∧ es = wX v wy n ch H o s r ∧ (∀ t, t < 4 → x = nI t → K (some (.int (liR v t y))) es) ∧ (¬ inI x 4 → KX "java/lang/IndexOutOfBoundsException" (wX v wy n ch H o s r))
def rmX6_lines : Room := { frames := 8, cells := 1, slots := 6, locals := 131 }
def pX6_lines (K : gK) (KX : gKX) : List (Nat × gO) := [(0, oFR 17 (oILoad 1)), (1, oCallSX 1 6 1 6 1 6 1 [] sX6_requireTenant KX), (4, oFR 17 (oILoad 2)), (5, oIf_eq 22), (8, oALoad 0), (9, oGet 6 0), (12, oGet 4 0), (15, oILoad 1), (16, oCallVR 17 1 6 3 1 [2,3,4,5] sX3_linesInOwnWays), (19, oGoto 23), (22, oConst (nI 0)), (23, oFR 17 (oIStore 4 3)), (24, oFR 17 (oALoad 0)), (25, oGet 6 0), (28, oGet 4 0), (31, oILoad 1), (32, oCallVR 17 1 6 3 1 [2,3,4,5] sX3_linesOf), (35, oFR 17 (oILoad 3)), (36, oSub), (37, oRet K 1 6)]
set_option maxRecDepth 100000 in
theorem kX6_lines {X : gX} {l : Launch} (hM : gM X l cX6_lines RX6 wsX6_lines rmX6_lines) {K : gK} (hE : gR X K 1 6 (some .int)) {KX : gKX} (hX : gRX X KX 1 6) (hl : l.stackTraces = false) (hnL : X.2.2.2.2.2.2.2.2.2.2.2.2.2.2.2.2 = 4) : okL X (pX6_lines K KX) := by
  obtain ⟨p, l1, e, R, s, m, args, below, meth, c, D, cA, A, ag, ad0, Q, nL⟩ := X
  cases hnL
  refine ⟨ok_FR (ok_iload_n hM 1 dX6_lines_0 rfl),
    ok_callSX hM hX [] (ctX6_requireTenant l hl) rfl gX6_lines_X6_requireTenant rfl rfl rfl (by decide +kernel) (by decide) dX6_lines_1,
    ok_FR (ok_iload_n hM 2 dX6_lines_4 rfl),
    ok_if_eq hM 22 dX6_lines_5 (by decide),
    ok_aload_n hM 0 dX6_lines_8 rfl,
    ok_get (C := RX6) (T := TX6) (Nf := 6) hM (fun _ h => List.mem_cons_of_mem _ (List.mem_append_left _ (List.mem_append_left _ (List.mem_append_left _ (List.mem_append_right _ h))))) rfl 0 (by decide) (List.mem_of_getElem? (i := 1) rfl) rfl dX6_lines_9,
    ok_get (C := RX4) (T := TX4) (Nf := 6) hM (fun _ h => List.mem_cons_of_mem _ (List.mem_append_left _ (List.mem_append_left _ (List.mem_append_right _ h)))) rfl 0 (by decide) (List.mem_of_getElem? (i := 2) rfl) rfl dX6_lines_12,
    ok_iload_n hM 1 dX6_lines_15 rfl,
    ok_R (ok_callV hM [2,3,4,5] (ctX3_linesInOwnWays l) rfl rfl gX6_lines_X3_linesInOwnWays rfl rfl rfl (by decide +kernel) (by decide) dX6_lines_16),
    ok_goto hM 23 dX6_lines_19 (by decide),
    ok_iconst hM dX6_lines_22 rfl,
    ok_FR (ok_istore_n hM 3 dX6_lines_23 rfl),
    ok_FR (ok_aload_n hM 0 dX6_lines_24 rfl),
    ok_get (C := RX6) (T := TX6) (Nf := 6) hM (fun _ h => List.mem_cons_of_mem _ (List.mem_append_left _ (List.mem_append_left _ (List.mem_append_left _ (List.mem_append_right _ h))))) rfl 0 (by decide) (List.mem_of_getElem? (i := 1) rfl) rfl dX6_lines_25,
    ok_get (C := RX4) (T := TX4) (Nf := 6) hM (fun _ h => List.mem_cons_of_mem _ (List.mem_append_left _ (List.mem_append_left _ (List.mem_append_right _ h)))) rfl 0 (by decide) (List.mem_of_getElem? (i := 2) rfl) rfl dX6_lines_28,
    ok_iload_n hM 1 dX6_lines_31 rfl,
    ok_R (ok_callV hM [2,3,4,5] (ctX3_linesOf l) rfl rfl gX6_lines_X3_linesOf rfl rfl rfl (by decide +kernel) (by decide) dX6_lines_32),
    ok_FR (ok_iload_n hM 3 dX6_lines_35 rfl),
    ok_isub hM dX6_lines_36,
    ok_ret hM hE dX6_lines_37,
    trivial⟩
set_option maxRecDepth 100000 in
theorem ctX6_lines (l : Launch) (hl : l.stackTraces = false) : CtX l yX6_lines wsX6_lines rmX6_lines 1 6 sX6_lines := by
  refine ctX_of (own := RX6) (cc := cX6_lines) (maxL := 4) (ret := (some .int)) (by decide) rfl rfl (by rintro _ _ _ _ ⟨x, y, v, wy, n, ch, H, o, s, r, rfl, ho, hs, rfl, hK, hX0⟩; exact Nat.le_of_ble_eq_true rfl) ?_
  intro X av es K KX hM hE hX hnL hsp
  obtain ⟨x, y, v, wy, n, ch, H, o, s, r, rfl, ho, hs, rfl, hK, hX0⟩ := hsp
  have hf := kX6_lines hM hE hX hl hnL
  refine wr_ok hf cut_nil 5 0 _ _ _ _ _ ?_
  refine ⟨_, rfl, rfl, fun t ht et => ?_, fun q => ?_⟩
  · subst et
    have hK := hK t ht rfl
    unfold liR at hK
    refine ⟨fun h1 => ?_, fun h1 => ?_⟩
    · rw [if_pos h1] at hK
      refine ⟨_, vOw v, vHd v, vSt v, rfl, rfl, ?_⟩
      exact hK
    · rw [if_neg h1] at hK
      refine ⟨_, vOw v, vHd v, vSt v, rfl, rfl, ?_⟩
      refine ⟨_, vOw v, vHd v, vSt v, rfl, rfl, ?_⟩
      exact hK
  · exact hX0  q
def sX6_monitored : gSX := fun av es K KX => ∃ x y z v wy n ch H o s r, av = [.ref 0, .int x, .int y, .int z] ∧ o < 6 ∧ s ≤ 6 ∧ es = wX v wy n ch H o s r ∧ (∀ t q w, t < 4 → (q = 0 ∨ q = 2) → w < 8 → x = nI t → y = nI q → z = nI w → K (some (.int (vAd v ((t * 2 + q / 2) * 8 + w)))) es) ∧ (¬ inI x 4 → KX "java/lang/IndexOutOfBoundsException" es) ∧ (inI x 4 → ¬ (y = nI 0 ∨ y = nI 2) → KX "java/lang/IndexOutOfBoundsException" es) ∧ (inI x 4 → (y = nI 0 ∨ y = nI 2) → ¬ inI z 8 → KX "java/lang/IndexOutOfBoundsException" es)
def rmX6_monitored : Room := { frames := 8, cells := 2, slots := 12, locals := 131 }
def pX6_monitored (K : gK) (KX : gKX) : List (Nat × gO) := [(0, oFR 17 (oILoad 1)), (1, oCallSX 2 12 2 12 1 6 1 [] sX6_requireTenant KX), (4, oFR 17 (oILoad 2)), (5, oSR 17 2 12 1 [] sX6_isSampled), (8, oFR 17 (oIf_ne 21)), (11, oThrow KX "java/lang/IndexOutOfBoundsException" 2 12), (21, oILoad 3), (22, oConst (nI 8)), (24, oCallSX 2 12 2 12 1 6 2 [] sX6_requireIndex KX), (27, oFR 17 (oALoad 0)), (28, oGet 6 0), (31, oGet 4 1), (34, oGet 2 0), (37, oILoad 1), (38, oILoad 2), (39, oSR 17 2 12 2 [] sX6_listStart), (42, oFR 17 (oILoad 3)), (43, oAdd), (44, oIALd 0), (45, oRet K 2 12)]
set_option maxRecDepth 100000 in
theorem kX6_monitored {X : gX} {l : Launch} (hM : gM X l cX6_monitored RX6 wsX6_monitored rmX6_monitored) {K : gK} (hE : gR X K 2 12 (some .int)) {KX : gKX} (hX : gRX X KX 2 12) (hl : l.stackTraces = false) (hnL : X.2.2.2.2.2.2.2.2.2.2.2.2.2.2.2.2 = 4) : okL X (pX6_monitored K KX) := by
  obtain ⟨p, l1, e, R, s, m, args, below, meth, c, D, cA, A, ag, ad0, Q, nL⟩ := X
  cases hnL
  refine ⟨ok_FR (ok_iload_n hM 1 dX6_monitored_0 rfl),
    ok_callSX hM hX [] (ctX6_requireTenant l hl) rfl gX6_monitored_X6_requireTenant rfl rfl rfl (by decide +kernel) (by decide) dX6_monitored_1,
    ok_FR (ok_iload_n hM 2 dX6_monitored_4 rfl),
    ok_SR (ok_callS hM [] (ctX6_isSampled l) rfl gX6_monitored_X6_isSampled rfl rfl rfl (by decide +kernel) (by decide) dX6_monitored_5),
    ok_FR (ok_if_ne hM 21 dX6_monitored_8 (by decide)),
    ok_throw hM hX hl (text := "the set is not sampled") "java/lang/IndexOutOfBoundsException" ["java/lang/RuntimeException", "java/lang/Exception"] (by decide +kernel) (by decide +kernel) rfl (List.mem_of_getElem? (i := 1) rfl) (List.mem_of_getElem? (i := 2) rfl) (by decide +kernel) (by decide +kernel) gBad_1 (by decide +kernel) (by decide) (by decide) ⟨Nat.le_refl _, Nat.le_refl _⟩ dX6_monitored_11 dX6_monitored_14 dX6_monitored_15 dX6_monitored_17 dX6_monitored_20,
    ok_iload_n hM 3 dX6_monitored_21 rfl,
    ok_bipush hM dX6_monitored_22 rfl,
    ok_callSX hM hX [] (ctX6_requireIndex l hl) rfl gX6_monitored_X6_requireIndex rfl rfl rfl (by decide +kernel) (by decide) dX6_monitored_24,
    ok_FR (ok_aload_n hM 0 dX6_monitored_27 rfl),
    ok_get (C := RX6) (T := TX6) (Nf := 6) hM (fun _ h => List.mem_cons_of_mem _ (List.mem_append_left _ (List.mem_append_left _ (List.mem_append_left _ (List.mem_append_right _ h))))) rfl 0 (by decide) (List.mem_of_getElem? (i := 3) rfl) rfl dX6_monitored_28,
    ok_get (C := RX4) (T := TX4) (Nf := 6) hM (fun _ h => List.mem_cons_of_mem _ (List.mem_append_left _ (List.mem_append_left _ (List.mem_append_right _ h)))) rfl 1 (by decide) (List.mem_of_getElem? (i := 4) rfl) rfl dX6_monitored_31,
    ok_get (C := RX2) (T := TX2) (Nf := 2) hM (fun _ h => List.mem_cons_of_mem _ (List.mem_append_left _ (List.mem_append_right _ h))) rfl 0 (by decide) (List.mem_of_getElem? (i := 5) rfl) rfl dX6_monitored_34,
    ok_iload_n hM 1 dX6_monitored_37 rfl,
    ok_iload_n hM 2 dX6_monitored_38 rfl,
    ok_SR (ok_callS hM [] (ctX6_listStart l) rfl gX6_monitored_X6_listStart rfl rfl rfl (by decide +kernel) (by decide) dX6_monitored_39),
    ok_FR (ok_iload_n hM 3 dX6_monitored_42 rfl),
    ok_iadd hM dX6_monitored_43,
    ok_iald hM dX6_monitored_44,
    ok_ret hM hE dX6_monitored_45,
    trivial⟩
set_option maxRecDepth 100000 in
theorem ctX6_monitored (l : Launch) (hl : l.stackTraces = false) : CtX l yX6_monitored wsX6_monitored rmX6_monitored 2 12 sX6_monitored := by
  refine ctX_of (own := RX6) (cc := cX6_monitored) (maxL := 4) (ret := (some .int)) (by decide) rfl rfl (by rintro _ _ _ _ ⟨x, y, z, v, wy, n, ch, H, o, s, r, rfl, ho, hs, rfl, hK, hX0, hX1, hX2⟩; exact Nat.le_of_ble_eq_true rfl) ?_
  intro X av es K KX hM hE hX hnL hsp
  obtain ⟨x, y, z, v, wy, n, ch, H, o, s, r, rfl, ho, hs, rfl, hK, hX0, hX1, hX2⟩ := hsp
  have hf := kX6_monitored hM hE hX hl hnL
  refine wr_ok hf cut_nil 5 0 _ _ _ _ _ ?_
  refine ⟨_, rfl, rfl, fun t ht et => ?_, fun q => hX0 q⟩
  subst et
  refine ⟨_, rfl, rfl, ?_⟩
  have hb : (bI (decide (y = nI 0) || decide (y = nI 2)) = 0) ↔ ¬ (y = nI 0 ∨ y = nI 2) := by
    rw [bI_0]
    simp
  refine ⟨fun h1 => ?_, fun h1 => ?_⟩
  · have h2 : y = nI 0 ∨ y = nI 2 := Classical.byContradiction (fun q => h1 (hb.mpr q))
    refine ⟨_, _, 8, rfl, rfl, by decide, rfl, fun w hw ew => ?_, fun q => hX2 ⟨t, ht, rfl⟩ h2 q⟩
    subst ew
    obtain ⟨q, hq, rfl⟩ : ∃ q, (q = 0 ∨ q = 2) ∧ y = nI q := by
      rcases h2 with h2 | h2
      · exact ⟨0, Or.inl rfl, h2⟩
      · exact ⟨2, Or.inr rfl, h2⟩
    refine ⟨_, _, t, q, rfl, rfl, rfl, ht, by omega, rfl, ?_⟩
    exact ⟨(t * 2 + q / 2) * 8 + w, by rw [nI_add], by omega, hK t q w ht hq hw rfl rfl rfl⟩
  · exact hX1 ⟨t, ht, rfl⟩ (hb.mp h1)
end MQ6

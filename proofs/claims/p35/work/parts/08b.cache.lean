/-! PartitionedCache: what its public methods share. -/
section MQ1
abbrev st1 (v : gV) : List gE := [.inr (4, [.ref 2, .ref 6, .ref 9, .ref 10, .int (vEp v), .int (vAc v)]), .inr (3, [.ref 3, .ref 4, .ref 5]), .inl (0, 8, .inl (vOw v)), .inl (0, 32, .inl (vHd v)), .inl (0, 32, .inl (vSt v)), .inr (2, [.ref 7, .ref 8]), .inl (0, 64, .inl (vAd v)), .inl (0, 32, .inl (vGa v)), .inl (0, 4, .inl (vLe v)), .inl (0, 16, .inl (vCo v))]
abbrev pcO (n t h x sl sf : Nat) : gE := .inr (6, [.ref n, .ref t, .ref h, .ref x, .ref sl, .ref sf])
abbrev w13 (v : gV) (wy : Nat → Int32) (r : List gE) : List gE := pcO 1 11 15 13 77 78 :: (st1 v ++ (.inr (5, [.ref 12]) :: .inl (0, 4, .inl wy) :: r))
def sX6_deficitOf : gS := fun av es K => ∃ z t v wy r, av = [.ref 0, .int z] ∧ z = nI t ∧ t < 4 ∧ es = w13 v wy r ∧ K (some (.int (wy t - nI (fOwn (vOw v) (nI t))))) es
def rmX6_deficitOf : Room := { frames := 1, cells := 0, slots := 0, locals := 23 }
def pX6_deficitOf (K : gK) : List (Nat × gO) := [(0, oFR 13 (oALoad 0)), (1, oGet 6 1), (4, oGet 5 0), (7, oILoad 1), (8, oIALd 0), (9, oALoad 0), (10, oGet 6 0), (13, oGet 4 0), (16, oILoad 1), (17, oCallVR 13 0 0 3 1 [2,3,4,5] sX3_ownedWays), (20, oSub), (21, oFR 13 (oRet K 0 0))]
set_option maxRecDepth 100000 in
theorem kX6_deficitOf {X : gX} {l : Launch} (hM : gM X l cX6_deficitOf RX6 wsX6_deficitOf rmX6_deficitOf) {K : gK} (hE : gR X K 0 0 (some .int)) (hnL : X.2.2.2.2.2.2.2.2.2.2.2.2.2.2.2.2 = 2) : okL X (pX6_deficitOf K) := by
  obtain ⟨p, l1, e, R, s, m, args, below, meth, c, D, cA, A, ag, ad0, Q, nL⟩ := X
  cases hnL
  refine ⟨ok_FR (ok_aload_n hM 0 dX6_deficitOf_0 rfl),
    ok_get (C := RX6) (T := TX6) (Nf := 6) hM (fun _ h => List.mem_cons_of_mem _ (List.mem_append_left _ (List.mem_append_left _ (List.mem_append_left _ (List.mem_append_right _ h))))) rfl 1 (by decide) (List.mem_of_getElem? (i := 1) rfl) rfl dX6_deficitOf_1,
    ok_get (C := RX5) (T := TX5) (Nf := 1) hM (fun _ h => List.mem_cons_of_mem _ (List.mem_append_left _ (List.mem_append_left _ (List.mem_append_right _ h)))) rfl 0 (by decide) (List.mem_of_getElem? (i := 2) rfl) rfl dX6_deficitOf_4,
    ok_iload_n hM 1 dX6_deficitOf_7 rfl,
    ok_iald hM dX6_deficitOf_8,
    ok_aload_n hM 0 dX6_deficitOf_9 rfl,
    ok_get (C := RX6) (T := TX6) (Nf := 6) hM (fun _ h => List.mem_cons_of_mem _ (List.mem_append_left _ (List.mem_append_left _ (List.mem_append_left _ (List.mem_append_right _ h))))) rfl 0 (by decide) (List.mem_of_getElem? (i := 3) rfl) rfl dX6_deficitOf_10,
    ok_get (C := RX4) (T := TX4) (Nf := 6) hM (fun _ h => List.mem_cons_of_mem _ (List.mem_append_left _ (List.mem_append_right _ h))) rfl 0 (by decide) (List.mem_of_getElem? (i := 4) rfl) rfl dX6_deficitOf_13,
    ok_iload_n hM 1 dX6_deficitOf_16 rfl,
    ok_R (ok_callV hM [2,3,4,5] (ctX3_ownedWays l) rfl rfl gX6_deficitOf_X3_ownedWays rfl rfl rfl (by decide +kernel) (by decide) dX6_deficitOf_17),
    ok_isub hM dX6_deficitOf_20,
    ok_FR (ok_ret hM hE dX6_deficitOf_21),
    trivial⟩
set_option maxRecDepth 100000 in
theorem ctX6_deficitOf (l : Launch) : Ct l yX6_deficitOf wsX6_deficitOf rmX6_deficitOf 0 0 false sX6_deficitOf := by
  refine ct_of (own := RX6) (cc := cX6_deficitOf) (maxL := 2) (ret := (some .int)) (by decide) rfl rfl (by rintro _ _ _ ⟨z, t, v, wy, r, rfl, rfl, ht, rfl, hK⟩; exact Nat.le_of_ble_eq_true rfl) ?_
  intro X av es K hM hE hag hin hnL hsp
  obtain ⟨z, t, v, wy, r, rfl, rfl, ht, rfl, hK⟩ := hsp
  have hf := kX6_deficitOf hM hE hnL
  refine wr_ok hf cut_nil 5 0 _ _ _ _ _ ?_
  refine ⟨t, rfl, ht, ?_⟩
  refine ⟨nI t, vOw v, vHd v, vSt v, rfl, rfl, ?_⟩
  exact hK
def amax (d : Nat → Int32) : Nat → Nat
  | 0 => 0
  | n + 1 => if d (amax d n) < d (n + 1) then n + 1 else amax d n
def amin (d : Nat → Int32) : Nat → Nat
  | 0 => 0
  | n + 1 => if d (n + 1) < d (amin d n) then n + 1 else amin d n
theorem amax_le (d : Nat → Int32) : ∀ n, amax d n ≤ n
  | 0 => Nat.le_refl _
  | n + 1 => by
    have := amax_le d n
    unfold amax
    split <;> omega
theorem amin_le (d : Nat → Int32) : ∀ n, amin d n ≤ n
  | 0 => Nat.le_refl _
  | n + 1 => by
    have := amin_le d n
    unfold amin
    split <;> omega
theorem wfl_lt {ow : Nat → Int32} {ln : Nat → Nat} {t : Int32} : ∀ (f w : Nat) (b : Option Nat) (m p : Nat), w + f ≤ 8 → (∀ q, b = some q → q < 8) → wfl ow ln t f w b m = some p → p < 8
  | 0, _, _, _, p, _, hb, h => hb p h
  | f + 1, w, b, m, p, hw, hb, h => by
    unfold wfl at h
    split at h
    · exact wfl_lt f (w + 1) (some w) _ p (by omega) (fun q hq => by cases hq; omega) h
    · exact wfl_lt f (w + 1) b _ p (by omega) hb h
def dfc (W : Nat → Nat) (ow : Nat → Int32) : Nat → Int32 := fun t => nI (W t) - nI (fOwn ow (nI t))
def mvD (L : Nat → Nat) (v : gV) : Nat → Int32 := dfc (tgt L (vGa v)) (vOw v)
def mvW (L : Nat → Nat) (v : gV) : Option Nat := if mvD L v (amax (mvD L v) 3) = 0 then none else wfl (vOw v) (lnW (vHd v) (nI (amin (mvD L v) 3))) (nI (amin (mvD L v) 3)) 8 0 none 5
def mvO (L : Nat → Nat) (v : gV) : Nat → Int32 := match mvW L v with
  | none => vOw v
  | some w => upd (vOw v) w (nI (amax (mvD L v) 3))
abbrev mvV (L : Nat → Nat) (v : gV) : gV := (mvO L v, vHd v, vSt v, vAd v, vGa v, vLe v, vCo v, vEp v, vAc v)
def sX6_moveOneWay : gS := fun av es K => ∃ v wy r L, av = [.ref 0] ∧ (∀ t, t < 4 → vLe v t = nI (L t) ∧ L t ≤ 2) ∧ es = w13 v wy r ∧ ∀ wy', K (some (.int (oI (mvW L v)))) (w13 (mvV L v) wy' r)
def rmX6_moveOneWay : Room := { frames := 3, cells := 0, slots := 0, locals := 73 }
def pX6_moveOneWay (K : gK) : List (Nat × gO) := [(0, oFR 13 (oALoad 0)), (1, oGet 6 1), (4, oALoad 0), (5, oGet 6 0), (8, oCallVR 13 0 0 5 1 [11,12,1,2,3,4,5,6,7,8,9,10] sX5_compute), (11, oConst (nI 0)), (12, oFR 13 (oIStore 4 1)), (13, oConst (nI 0)), (14, oFR 13 (oIStore 4 2)), (15, oConst (nI 1)), (16, oFR 13 (oIStore 4 3)), (17, oFR 13 (oILoad 3)), (18, oConst (nI 4)), (19, oICmp_ge 58), (22, oALoad 0), (23, oILoad 3), (24, oCallV0 0 0 6 1 sX6_deficitOf), (27, oFR 13 (oALoad 0)), (28, oILoad 1), (29, oCallV0 0 0 6 1 sX6_deficitOf), (32, oFR 13 (oICmp_le 37)), (35, oILoad 3), (36, oIStore 4 1), (37, oFR 13 (oALoad 0)), (38, oILoad 3), (39, oCallV0 0 0 6 1 sX6_deficitOf), (42, oFR 13 (oALoad 0)), (43, oILoad 2), (44, oCallV0 0 0 6 1 sX6_deficitOf), (47, oFR 13 (oICmp_ge 52)), (50, oILoad 3), (51, oIStore 4 2), (52, oFR 13 (oIInc 4 3 (nI 1))), (55, oGoto 17), (58, oFR 13 (oALoad 0)), (59, oILoad 1), (60, oCallV0 0 0 6 1 sX6_deficitOf), (63, oFR 13 (oIf_ne 68)), (66, oConst (-1)), (67, oRet K 0 0), (68, oALoad 0), (69, oGet 6 0), (72, oGet 4 0), (75, oILoad 2), (76, oCallVR 13 0 0 3 1 [2,3,4,5] sX3_wayWithFewestLines), (79, oFR 13 (oIStore 4 3)), (80, oFR 13 (oILoad 3)), (81, oConst (-1)), (82, oICmp_eq 98), (85, oALoad 0), (86, oGet 6 0), (89, oGet 4 0), (92, oGet 3 0), (95, oILoad 3), (96, oILoad 1), (97, oIASt), (98, oFR 13 (oILoad 3)), (99, oRet K 0 0)]
set_option maxRecDepth 100000 in
theorem kX6_moveOneWay {X : gX} {l : Launch} (hM : gM X l cX6_moveOneWay RX6 wsX6_moveOneWay rmX6_moveOneWay) {K : gK} (hE : gR X K 0 0 (some .int)) (hnL : X.2.2.2.2.2.2.2.2.2.2.2.2.2.2.2.2 = 4) : okL X (pX6_moveOneWay K) := by
  obtain ⟨p, l1, e, R, s, m, args, below, meth, c, D, cA, A, ag, ad0, Q, nL⟩ := X
  cases hnL
  refine ⟨ok_FR (ok_aload_n hM 0 dX6_moveOneWay_0 rfl),
    ok_get (C := RX6) (T := TX6) (Nf := 6) hM (fun _ h => List.mem_cons_of_mem _ (List.mem_append_left _ (List.mem_append_left _ (List.mem_append_left _ (List.mem_append_left _ (List.mem_append_right _ h)))))) rfl 1 (by decide) (List.mem_of_getElem? (i := 1) rfl) rfl dX6_moveOneWay_1,
    ok_aload_n hM 0 dX6_moveOneWay_4 rfl,
    ok_get (C := RX6) (T := TX6) (Nf := 6) hM (fun _ h => List.mem_cons_of_mem _ (List.mem_append_left _ (List.mem_append_left _ (List.mem_append_left _ (List.mem_append_left _ (List.mem_append_right _ h)))))) rfl 0 (by decide) (List.mem_of_getElem? (i := 2) rfl) rfl dX6_moveOneWay_5,
    ok_R (ok_callV hM [11,12,1,2,3,4,5,6,7,8,9,10] (ctX5_compute l) rfl rfl gX6_moveOneWay_X5_compute rfl rfl rfl (by decide +kernel) (by decide) dX6_moveOneWay_8),
    ok_iconst hM dX6_moveOneWay_11 rfl,
    ok_FR (ok_istore_n hM 1 dX6_moveOneWay_12 rfl),
    ok_iconst hM dX6_moveOneWay_13 rfl,
    ok_FR (ok_istore_n hM 2 dX6_moveOneWay_14 rfl),
    ok_iconst hM dX6_moveOneWay_15 rfl,
    ok_FR (ok_istore_n hM 3 dX6_moveOneWay_16 rfl),
    ok_FR (ok_iload_n hM 3 dX6_moveOneWay_17 rfl),
    ok_iconst hM dX6_moveOneWay_18 rfl,
    ok_icmp_ge hM 58 dX6_moveOneWay_19 (by decide),
    ok_aload_n hM 0 dX6_moveOneWay_22 rfl,
    ok_iload_n hM 3 dX6_moveOneWay_23 rfl,
    ok_callV0 hM (ctX6_deficitOf l) rfl gX6_moveOneWay_X6_deficitOf rfl rfl rfl (by decide +kernel) (by decide) dX6_moveOneWay_24,
    ok_FR (ok_aload_n hM 0 dX6_moveOneWay_27 rfl),
    ok_iload_n hM 1 dX6_moveOneWay_28 rfl,
    ok_callV0 hM (ctX6_deficitOf l) rfl gX6_moveOneWay_X6_deficitOf rfl rfl rfl (by decide +kernel) (by decide) dX6_moveOneWay_29,
    ok_FR (ok_icmp_le hM 37 dX6_moveOneWay_32 (by decide)),
    ok_iload_n hM 3 dX6_moveOneWay_35 rfl,
    ok_istore_n hM 1 dX6_moveOneWay_36 rfl,
    ok_FR (ok_aload_n hM 0 dX6_moveOneWay_37 rfl),
    ok_iload_n hM 3 dX6_moveOneWay_38 rfl,
    ok_callV0 hM (ctX6_deficitOf l) rfl gX6_moveOneWay_X6_deficitOf rfl rfl rfl (by decide +kernel) (by decide) dX6_moveOneWay_39,
    ok_FR (ok_aload_n hM 0 dX6_moveOneWay_42 rfl),
    ok_iload_n hM 2 dX6_moveOneWay_43 rfl,
    ok_callV0 hM (ctX6_deficitOf l) rfl gX6_moveOneWay_X6_deficitOf rfl rfl rfl (by decide +kernel) (by decide) dX6_moveOneWay_44,
    ok_FR (ok_icmp_ge hM 52 dX6_moveOneWay_47 (by decide)),
    ok_iload_n hM 3 dX6_moveOneWay_50 rfl,
    ok_istore_n hM 2 dX6_moveOneWay_51 rfl,
    ok_FR (ok_iinc hM 3 dX6_moveOneWay_52 rfl),
    ok_goto hM 17 dX6_moveOneWay_55 (by decide),
    ok_FR (ok_aload_n hM 0 dX6_moveOneWay_58 rfl),
    ok_iload_n hM 1 dX6_moveOneWay_59 rfl,
    ok_callV0 hM (ctX6_deficitOf l) rfl gX6_moveOneWay_X6_deficitOf rfl rfl rfl (by decide +kernel) (by decide) dX6_moveOneWay_60,
    ok_FR (ok_if_ne hM 68 dX6_moveOneWay_63 (by decide)),
    ok_iconst hM dX6_moveOneWay_66 rfl,
    ok_ret hM hE dX6_moveOneWay_67,
    ok_aload_n hM 0 dX6_moveOneWay_68 rfl,
    ok_get (C := RX6) (T := TX6) (Nf := 6) hM (fun _ h => List.mem_cons_of_mem _ (List.mem_append_left _ (List.mem_append_left _ (List.mem_append_left _ (List.mem_append_left _ (List.mem_append_right _ h)))))) rfl 0 (by decide) (List.mem_of_getElem? (i := 2) rfl) rfl dX6_moveOneWay_69,
    ok_get (C := RX4) (T := TX4) (Nf := 6) hM (fun _ h => List.mem_cons_of_mem _ (List.mem_append_left _ (List.mem_append_left _ (List.mem_append_left _ (List.mem_append_right _ h))))) rfl 0 (by decide) (List.mem_of_getElem? (i := 3) rfl) rfl dX6_moveOneWay_72,
    ok_iload_n hM 2 dX6_moveOneWay_75 rfl,
    ok_R (ok_callV hM [2,3,4,5] (ctX3_wayWithFewestLines l) rfl rfl gX6_moveOneWay_X3_wayWithFewestLines rfl rfl rfl (by decide +kernel) (by decide) dX6_moveOneWay_76),
    ok_FR (ok_istore_n hM 3 dX6_moveOneWay_79 rfl),
    ok_FR (ok_iload_n hM 3 dX6_moveOneWay_80 rfl),
    ok_iconst hM dX6_moveOneWay_81 rfl,
    ok_icmp_eq hM 98 dX6_moveOneWay_82 (by decide),
    ok_aload_n hM 0 dX6_moveOneWay_85 rfl,
    ok_get (C := RX6) (T := TX6) (Nf := 6) hM (fun _ h => List.mem_cons_of_mem _ (List.mem_append_left _ (List.mem_append_left _ (List.mem_append_left _ (List.mem_append_left _ (List.mem_append_right _ h)))))) rfl 0 (by decide) (List.mem_of_getElem? (i := 2) rfl) rfl dX6_moveOneWay_86,
    ok_get (C := RX4) (T := TX4) (Nf := 6) hM (fun _ h => List.mem_cons_of_mem _ (List.mem_append_left _ (List.mem_append_left _ (List.mem_append_left _ (List.mem_append_right _ h))))) rfl 0 (by decide) (List.mem_of_getElem? (i := 3) rfl) rfl dX6_moveOneWay_89,
    ok_get (C := RX3) (T := TX3) (Nf := 3) hM (fun _ h => List.mem_cons_of_mem _ (List.mem_append_left _ (List.mem_append_left _ (List.mem_append_right _ h)))) rfl 0 (by decide) (List.mem_of_getElem? (i := 4) rfl) rfl dX6_moveOneWay_92,
    ok_iload_n hM 3 dX6_moveOneWay_95 rfl,
    ok_iload_n hM 1 dX6_moveOneWay_96 rfl,
    ok_iast hM dX6_moveOneWay_97,
    ok_FR (ok_iload_n hM 3 dX6_moveOneWay_98 rfl),
    ok_ret hM hE dX6_moveOneWay_99,
    trivial⟩
set_option maxRecDepth 100000 in
theorem ctX6_moveOneWay (l : Launch) : Ct l yX6_moveOneWay wsX6_moveOneWay rmX6_moveOneWay 0 0 false sX6_moveOneWay := by
  refine ct_of (own := RX6) (cc := cX6_moveOneWay) (maxL := 4) (ret := (some .int)) (by decide) rfl rfl (by rintro _ _ _ ⟨v, wy, r, L, rfl, hL, rfl, hK⟩; exact Nat.le_of_ble_eq_true rfl) ?_
  intro X av es K hM hE hag hin hnL hsp
  obtain ⟨v, wy, r, L, rfl, hL, rfl, hK⟩ := hsp
  have hf := kX6_moveOneWay hM hE hnL
  have hm := amax_le (mvD L v) 3
  have hm2 := amin_le (mvD L v) 3
  refine g_with (X := X) 17 [0, 1, 2, 3] (fun μ vs es k n => ∃ i : Nat, μ = 4 - i ∧ 1 ≤ i ∧ i ≤ 4 ∧ vs = [.ref 0, .int (nI (amax (mvD L v) (i - 1))), .int (nI (amin (mvD L v) (i - 1))), .int (nI i)] ∧ es = w13 v (nF (tgt L (vGa v))) r ∧ k = 0 ∧ n = 0) cut_nil (fun μ hc vs es k n hI => ?_) (fun hc => ?_)
  · obtain ⟨i, rfl, hi1, hi, rfl, rfl, rfl, rfl⟩ := hI
    have e1 : ∀ t, nF (tgt L (vGa v)) t - nI (fOwn (vOw v) (nI t)) = mvD L v t := fun t => rfl
    have ha := amax_le (mvD L v) (i - 1)
    have hb := amin_le (mvD L v) (i - 1)
    refine g_with (X := X) 37 [0, 1, 2, 3] (fun μ' vs es k n => μ' = 0 ∧ i < 4 ∧ vs = [.ref 0, .int (nI (amax (mvD L v) i)), .int (nI (amin (mvD L v) (i - 1))), .int (nI i)] ∧ es = w13 v (nF (tgt L (vGa v))) r ∧ k = 0 ∧ n = 0) hc (fun μ' hc' vs es k n hI => ?_) (fun hc' => ?_)
    · obtain ⟨rfl, h4, rfl, rfl, rfl, rfl⟩ := hI
      obtain ⟨d, rfl⟩ : ∃ d, i = d + 1 := ⟨i - 1, by omega⟩
      simp only [Nat.add_sub_cancel] at ha hb ⊢
      refine g_go hf hc' 5 ?_
      refine ⟨_, d + 1, v, _, r, rfl, rfl, by omega, rfl, ?_⟩
      refine ⟨_, amin (mvD L v) d, v, _, r, rfl, rfl, by omega, rfl, ?_⟩
      rw [e1, e1]
      refine ⟨fun h7 => ?_, fun h7 => ?_⟩
      · have h8 : ¬ mvD L v (d + 1) < mvD L v (amin (mvD L v) d) := by first | exact h7 | exact Int32.not_lt.mpr h7
        exact ⟨4 - (d + 1 + 1), by omega, d + 1 + 1, rfl, by omega, by omega, by rw [nI_add]; simp only [Nat.add_sub_cancel, amin, if_neg h8], rfl, rfl, rfl⟩
      · have h8 : mvD L v (d + 1) < mvD L v (amin (mvD L v) d) := by first | exact h7 | exact Int32.not_le.mp h7
        exact ⟨4 - (d + 1 + 1), by omega, d + 1 + 1, rfl, by omega, by omega, by rw [nI_add]; simp only [Nat.add_sub_cancel, amin, if_pos h8], rfl, rfl, rfl⟩
    refine g_go hf hc' 5 ?_
    refine ⟨fun h2 => ?_, fun h2 => ?_⟩
    · have h4 : i = 4 := by
        rw [nI_leI (by decide) (by omega)] at h2
        omega
      subst h4
      refine ⟨_, amax (mvD L v) 3, v, _, r, rfl, rfl, by omega, rfl, ?_⟩
      refine ⟨fun h5 => ?_, fun h5 => ?_⟩
      · have h6 : ¬ mvD L v (amax (mvD L v) 3) = 0 := h5
        have e1 : mvW L v = wfl (vOw v) (lnW (vHd v) (nI (amin (mvD L v) 3))) (nI (amin (mvD L v) 3)) 8 0 none 5 := if_neg h6
        have hlt : ∀ p, mvW L v = some p → p < 8 := fun p hp => wfl_lt 8 0 none 5 p (by omega) (fun q hq => by cases hq) (e1.symm.trans hp)
        have hno : oI (mvW L v) = -1 ↔ mvW L v = none := oI_ne (fun p hp => by have := hlt p hp; omega)
        refine ⟨_, vOw v, vHd v, vSt v, rfl, rfl, ?_⟩
        rw [← e1]
        refine ⟨fun h7 => ?_, fun h7 => ?_⟩
        · have h8 : mvW L v = none := hno.mp h7
          have e2 : mvO L v = vOw v := by unfold mvO; rw [h8]
          have hK : K (some (.int (oI (mvW L v)))) (w13 (mvO L v, vHd v, vSt v, vAd v, vGa v, vLe v, vCo v, vEp v, vAc v) (nF (tgt L (vGa v))) r) := hK _
          rw [e2] at hK
          exact hK
        · obtain ⟨p, hp⟩ : ∃ p, mvW L v = some p := by
            cases hq : mvW L v with
            | none => exact absurd (hno.mpr hq) h7
            | some p => exact ⟨p, rfl⟩
          have e2 : mvO L v = upd (vOw v) p (nI (amax (mvD L v) 3)) := by unfold mvO; rw [hp]
          have hK : K (some (.int (oI (mvW L v)))) (w13 (mvO L v, vHd v, vSt v, vAd v, vGa v, vLe v, vCo v, vEp v, vAc v) (nF (tgt L (vGa v))) r) := hK _
          rw [e2, hp] at hK
          refine ⟨p, by rw [hp]; rfl, hlt p hp, ?_⟩
          rw [hp]
          exact hK
      · have h6 : mvD L v (amax (mvD L v) 3) = 0 := h5
        have e1 : mvW L v = none := if_pos h6
        have e2 : mvO L v = vOw v := by unfold mvO; rw [e1]
        have hK : K (some (.int (oI (mvW L v)))) (w13 (mvO L v, vHd v, vSt v, vAd v, vGa v, vLe v, vCo v, vEp v, vAc v) (nF (tgt L (vGa v))) r) := hK _
        rw [e2, e1] at hK
        exact hK
    · have h4 : i < 4 := by
        rw [nI_leI (by decide) (by omega)] at h2
        omega
      obtain ⟨d, rfl⟩ : ∃ d, i = d + 1 := ⟨i - 1, by omega⟩
      simp only [Nat.add_sub_cancel] at ha hb ⊢
      refine ⟨_, d + 1, v, _, r, rfl, rfl, by omega, rfl, ?_⟩
      refine ⟨_, amax (mvD L v) d, v, _, r, rfl, rfl, by omega, rfl, ?_⟩
      rw [e1, e1]
      refine ⟨fun h7 => ?_, fun h7 => ?_⟩
      · have h8 : ¬ mvD L v (amax (mvD L v) d) < mvD L v (d + 1) := by first | exact h7 | exact Int32.not_lt.mpr h7
        exact ⟨0, rfl, by omega, by simp only [amax, if_neg h8], rfl, rfl, rfl⟩
      · have h8 : mvD L v (amax (mvD L v) d) < mvD L v (d + 1) := by first | exact h7 | exact Int32.not_le.mp h7
        exact ⟨0, rfl, by omega, by simp only [amax, if_pos h8], rfl, rfl, rfl⟩
  · refine wr_ok hf hc 5 0 _ _ _ _ _ ?_
    refine ⟨wy, v, L, rfl, hL, rfl, ?_⟩
    exact ⟨3, 1, rfl, by omega, by omega, rfl, rfl, rfl, rfl⟩
def evC (hd : Nat → Int32) (p m : Nat) (co : Nat → Int32) : Nat → Int32 := fun j => if j % 4 = 3 ∧ j / 4 < m ∧ hol hd (nI (j / 4)) p = true then co j + nI 1 else co j
def ptP (v : gV) (t a : Nat) : Option Nat := ptf (vOw v) (vHd v) (vSt v) (nI t) (a % 4 * 8) 8 0 none
abbrev brQ (v : gV) (t a p : Nat) : gV := (vOw v, upd (vHd v) p (nI t * nI 256 + nI a), upd (vSt v) p (vAc v), vAd v, vGa v, vLe v, evC (vHd v) p 4 (vCo v), vEp v, vAc v)
def brV (v : gV) (t a : Nat) : gV := match ptP v t a with
  | none => v
  | some p => brQ v t a p
theorem ptf_lt {ow hd st : Nat → Int32} {t : Int32} {fs : Nat} (hfs : fs ≤ 24) : ∀ (f w : Nat) (old : Option Nat) (p : Nat), w + f ≤ 8 → (∀ q, old = some q → q < 32) → ptf ow hd st t fs f w old = some p → p < 32
  | 0, _, _, p, _, ho, h => ho p h
  | f + 1, w, old, p, hw, ho, h => by
    unfold ptf at h
    split at h
    · split at h
      · cases h
        omega
      · refine ptf_lt hfs f (w + 1) _ p (by omega) (fun q hq => ?_) h
        cases hq
        cases old with
        | none => simp only [ptU]; omega
        | some o =>
          have := ho o rfl
          simp only [ptU]
          split <;> omega
    · exact ptf_lt hfs f (w + 1) old p (by omega) ho h
def sX6_bringIn : gS := fun av es K => ∃ y z t a v wy r, av = [.ref 0, .int y, .int z] ∧ y = nI t ∧ z = nI a ∧ t < 4 ∧ a < 256 ∧ es = w13 v wy r ∧ K none (w13 (brV v t a) wy r)
def rmX6_bringIn : Room := { frames := 1, cells := 0, slots := 0, locals := 26 }
def pX6_bringIn (K : gK) : List (Nat × gO) := [(0, oFR 13 (oALoad 0)), (1, oGet 6 0), (4, oGet 4 0), (7, oILoad 1), (8, oILoad 2), (9, oCallVR 13 0 0 3 2 [2,3,4,5] sX3_placeToFill), (12, oFR 13 (oIStore 5 3)), (13, oFR 13 (oILoad 3)), (14, oConst (-1)), (15, oICmp_ne 19), (18, oRetV K 0 0), (19, oConst (nI 0)), (20, oIStore 5 4), (22, oFR 13 (oILoad 4)), (24, oConst (nI 4)), (25, oICmp_ge 68), (28, oALoad 0), (29, oGet 6 0), (32, oGet 4 0), (35, oILoad 4), (37, oILoad 3), (38, oCallVR 13 0 0 3 2 [2,3,4,5] sX3_holdsLineOf), (41, oFR 13 (oIf_eq 62)), (44, oALoad 0), (45, oGet 6 0), (48, oGet 4 3), (51, oILoad 4), (53, oConst (nI 4)), (54, oMul), (55, oConst (nI 3)), (56, oAdd), (57, oDup2), (58, oIALd 0), (59, oConst (nI 1)), (60, oAdd), (61, oIASt), (62, oFR 13 (oIInc 5 4 (nI 1))), (65, oGoto 22), (68, oFR 13 (oALoad 0)), (69, oGet 6 0), (72, oGet 4 0), (75, oGet 3 1), (78, oILoad 3), (79, oILoad 1), (80, oConst (nI 256)), (83, oMul), (84, oILoad 2), (85, oAdd), (86, oIASt), (87, oFR 13 (oALoad 0)), (88, oGet 6 0), (91, oGet 4 0), (94, oGet 3 2), (97, oILoad 3), (98, oALoad 0), (99, oGet 6 0), (102, oGet 4 5), (105, oIASt), (106, oFR 13 (oRetV K 0 0))]
set_option maxRecDepth 100000 in
theorem kX6_bringIn {X : gX} {l : Launch} (hM : gM X l cX6_bringIn RX6 wsX6_bringIn rmX6_bringIn) {K : gK} (hE : gR X K 0 0 none) (hnL : X.2.2.2.2.2.2.2.2.2.2.2.2.2.2.2.2 = 5) : okL X (pX6_bringIn K) := by
  obtain ⟨p, l1, e, R, s, m, args, below, meth, c, D, cA, A, ag, ad0, Q, nL⟩ := X
  cases hnL
  refine ⟨ok_FR (ok_aload_n hM 0 dX6_bringIn_0 rfl),
    ok_get (C := RX6) (T := TX6) (Nf := 6) hM (fun _ h => List.mem_cons_of_mem _ (List.mem_append_left _ (List.mem_append_left _ (List.mem_append_right _ h)))) rfl 0 (by decide) (List.mem_of_getElem? (i := 1) rfl) rfl dX6_bringIn_1,
    ok_get (C := RX4) (T := TX4) (Nf := 6) hM (fun _ h => List.mem_cons_of_mem _ (List.mem_append_left _ (List.mem_append_right _ h))) rfl 0 (by decide) (List.mem_of_getElem? (i := 2) rfl) rfl dX6_bringIn_4,
    ok_iload_n hM 1 dX6_bringIn_7 rfl,
    ok_iload_n hM 2 dX6_bringIn_8 rfl,
    ok_R (ok_callV hM [2,3,4,5] (ctX3_placeToFill l) rfl rfl gX6_bringIn_X3_placeToFill rfl rfl rfl (by decide +kernel) (by decide) dX6_bringIn_9),
    ok_FR (ok_istore_n hM 3 dX6_bringIn_12 rfl),
    ok_FR (ok_iload_n hM 3 dX6_bringIn_13 rfl),
    ok_iconst hM dX6_bringIn_14 rfl,
    ok_icmp_ne hM 19 dX6_bringIn_15 (by decide),
    ok_retV hM hE dX6_bringIn_18,
    ok_iconst hM dX6_bringIn_19 rfl,
    ok_istore hM 4 dX6_bringIn_20,
    ok_FR (ok_iload hM 4 dX6_bringIn_22),
    ok_iconst hM dX6_bringIn_24 rfl,
    ok_icmp_ge hM 68 dX6_bringIn_25 (by decide),
    ok_aload_n hM 0 dX6_bringIn_28 rfl,
    ok_get (C := RX6) (T := TX6) (Nf := 6) hM (fun _ h => List.mem_cons_of_mem _ (List.mem_append_left _ (List.mem_append_left _ (List.mem_append_right _ h)))) rfl 0 (by decide) (List.mem_of_getElem? (i := 1) rfl) rfl dX6_bringIn_29,
    ok_get (C := RX4) (T := TX4) (Nf := 6) hM (fun _ h => List.mem_cons_of_mem _ (List.mem_append_left _ (List.mem_append_right _ h))) rfl 0 (by decide) (List.mem_of_getElem? (i := 2) rfl) rfl dX6_bringIn_32,
    ok_iload hM 4 dX6_bringIn_35,
    ok_iload_n hM 3 dX6_bringIn_37 rfl,
    ok_R (ok_callV hM [2,3,4,5] (ctX3_holdsLineOf l) rfl rfl gX6_bringIn_X3_holdsLineOf rfl rfl rfl (by decide +kernel) (by decide) dX6_bringIn_38),
    ok_FR (ok_if_eq hM 62 dX6_bringIn_41 (by decide)),
    ok_aload_n hM 0 dX6_bringIn_44 rfl,
    ok_get (C := RX6) (T := TX6) (Nf := 6) hM (fun _ h => List.mem_cons_of_mem _ (List.mem_append_left _ (List.mem_append_left _ (List.mem_append_right _ h)))) rfl 0 (by decide) (List.mem_of_getElem? (i := 1) rfl) rfl dX6_bringIn_45,
    ok_get (C := RX4) (T := TX4) (Nf := 6) hM (fun _ h => List.mem_cons_of_mem _ (List.mem_append_left _ (List.mem_append_right _ h))) rfl 3 (by decide) (List.mem_of_getElem? (i := 3) rfl) rfl dX6_bringIn_48,
    ok_iload hM 4 dX6_bringIn_51,
    ok_iconst hM dX6_bringIn_53 rfl,
    ok_imul hM dX6_bringIn_54,
    ok_iconst hM dX6_bringIn_55 rfl,
    ok_iadd hM dX6_bringIn_56,
    ok_dup2 hM dX6_bringIn_57,
    ok_iald hM dX6_bringIn_58,
    ok_iconst hM dX6_bringIn_59 rfl,
    ok_iadd hM dX6_bringIn_60,
    ok_iast hM dX6_bringIn_61,
    ok_FR (ok_iinc hM 4 dX6_bringIn_62 rfl),
    ok_goto hM 22 dX6_bringIn_65 (by decide),
    ok_FR (ok_aload_n hM 0 dX6_bringIn_68 rfl),
    ok_get (C := RX6) (T := TX6) (Nf := 6) hM (fun _ h => List.mem_cons_of_mem _ (List.mem_append_left _ (List.mem_append_left _ (List.mem_append_right _ h)))) rfl 0 (by decide) (List.mem_of_getElem? (i := 1) rfl) rfl dX6_bringIn_69,
    ok_get (C := RX4) (T := TX4) (Nf := 6) hM (fun _ h => List.mem_cons_of_mem _ (List.mem_append_left _ (List.mem_append_right _ h))) rfl 0 (by decide) (List.mem_of_getElem? (i := 2) rfl) rfl dX6_bringIn_72,
    ok_get (C := RX3) (T := TX3) (Nf := 3) hM (fun _ h => List.mem_cons_of_mem _ (List.mem_append_right _ h)) rfl 1 (by decide) (List.mem_of_getElem? (i := 4) rfl) rfl dX6_bringIn_75,
    ok_iload_n hM 3 dX6_bringIn_78 rfl,
    ok_iload_n hM 1 dX6_bringIn_79 rfl,
    ok_sipush hM dX6_bringIn_80 rfl,
    ok_imul hM dX6_bringIn_83,
    ok_iload_n hM 2 dX6_bringIn_84 rfl,
    ok_iadd hM dX6_bringIn_85,
    ok_iast hM dX6_bringIn_86,
    ok_FR (ok_aload_n hM 0 dX6_bringIn_87 rfl),
    ok_get (C := RX6) (T := TX6) (Nf := 6) hM (fun _ h => List.mem_cons_of_mem _ (List.mem_append_left _ (List.mem_append_left _ (List.mem_append_right _ h)))) rfl 0 (by decide) (List.mem_of_getElem? (i := 1) rfl) rfl dX6_bringIn_88,
    ok_get (C := RX4) (T := TX4) (Nf := 6) hM (fun _ h => List.mem_cons_of_mem _ (List.mem_append_left _ (List.mem_append_right _ h))) rfl 0 (by decide) (List.mem_of_getElem? (i := 2) rfl) rfl dX6_bringIn_91,
    ok_get (C := RX3) (T := TX3) (Nf := 3) hM (fun _ h => List.mem_cons_of_mem _ (List.mem_append_right _ h)) rfl 2 (by decide) (List.mem_of_getElem? (i := 5) rfl) rfl dX6_bringIn_94,
    ok_iload_n hM 3 dX6_bringIn_97 rfl,
    ok_aload_n hM 0 dX6_bringIn_98 rfl,
    ok_get (C := RX6) (T := TX6) (Nf := 6) hM (fun _ h => List.mem_cons_of_mem _ (List.mem_append_left _ (List.mem_append_left _ (List.mem_append_right _ h)))) rfl 0 (by decide) (List.mem_of_getElem? (i := 1) rfl) rfl dX6_bringIn_99,
    ok_get (C := RX4) (T := TX4) (Nf := 6) hM (fun _ h => List.mem_cons_of_mem _ (List.mem_append_left _ (List.mem_append_right _ h))) rfl 5 (by decide) (List.mem_of_getElem? (i := 6) rfl) rfl dX6_bringIn_102,
    ok_iast hM dX6_bringIn_105,
    ok_FR (ok_retV hM hE dX6_bringIn_106),
    trivial⟩
set_option maxRecDepth 100000 in
theorem ctX6_bringIn (l : Launch) : Ct l yX6_bringIn wsX6_bringIn rmX6_bringIn 0 0 false sX6_bringIn := by
  refine ct_of (own := RX6) (cc := cX6_bringIn) (maxL := 5) (ret := none) (by decide) rfl rfl (by rintro _ _ _ ⟨y, z, t, a, v, wy, r, rfl, rfl, rfl, ht, ha, rfl, hK⟩; exact Nat.le_of_ble_eq_true rfl) ?_
  intro X av es K hM hE hag hin hnL hsp
  obtain ⟨y, z, t, a, v, wy, r, rfl, rfl, rfl, ht, ha, rfl, hK⟩ := hsp
  have hf := kX6_bringIn hM (gR_eqv hE) hnL
  have hlt : ∀ p, ptP v t a = some p → p < 32 := fun p hp => ptf_lt (by omega) 8 0 none p (by omega) (fun q hq => by cases hq) hp
  have hno : oI (ptP v t a) = -1 ↔ ptP v t a = none := oI_ne (fun p hp => by have := hlt p hp; omega)
  refine g_with (X := X) 22 [0, 1, 2, 3, 4] (fun μ vs es k n => ∃ (i p : Nat) (co : Nat → Int32), μ = 4 - i ∧ i ≤ 4 ∧ ptP v t a = some p ∧ (∀ j, co j = evC (vHd v) p i (vCo v) j) ∧ vs = [.ref 0, .int (nI t), .int (nI a), .int (nI p), .int (nI i)] ∧ es = w13 (vOw v, vHd v, vSt v, vAd v, vGa v, vLe v, co, vEp v, vAc v) wy r ∧ k = 0 ∧ n = 0) cut_nil (fun μ hc vs es k n hI => ?_) (fun hc => ?_)
  · obtain ⟨i, p, co, rfl, hi, hp, hco, rfl, rfl, rfl, rfl⟩ := hI
    have hp32 := hlt p hp
    refine g_go hf hc 5 ?_
    refine ⟨fun h2 => ?_, fun h2 => ?_⟩
    · have h4 : i = 4 := by
        rw [nI_leI (by decide) (by omega)] at h2
        omega
      subst h4
      have e1 : brV v t a = brQ v t a p := by unfold brV; rw [hp]
      rw [e1] at hK
      refine ⟨p, rfl, hp32, ?_⟩
      refine ⟨p, rfl, hp32, ?_⟩
      exact ⟨w13 (brQ v t a p) wy r, ⟨rfl, rfl, rfl, eqE_rfl _, eqE_rfl _, eqE_rfl _, rfl, eqE_rfl _, eqE_rfl _, eqE_rfl _, ⟨rfl, rfl, fun j _ => hco j⟩, rfl, eqE_rfl _, eqL_rfl _⟩, hK⟩
    · have h4 : i < 4 := by
        rw [nI_leI (by decide) (by omega)] at h2
        omega
      refine ⟨_, _, p, vOw v, vHd v, vSt v, rfl, rfl, hp32, rfl, ?_⟩
      refine ⟨fun h7 => ?_, fun h7 => ?_⟩
      · rw [bI_0] at h7
        refine ⟨4 - (i + 1), by omega, i + 1, p, co, rfl, by omega, hp, fun j => ?_, by rw [nI_add], rfl, rfl, rfl⟩
        rw [hco]
        unfold evC
        by_cases hj : j % 4 = 3 ∧ j / 4 = i
        · rw [if_neg (by omega), if_neg (fun q => by rw [hj.2, h7] at q; exact absurd q.2.2 (by decide))]
        · have : (j % 4 = 3 ∧ j / 4 < i ∧ hol (vHd v) (nI (j / 4)) p = true) ↔ (j % 4 = 3 ∧ j / 4 < i + 1 ∧ hol (vHd v) (nI (j / 4)) p = true) := ⟨fun q => ⟨q.1, by omega, q.2.2⟩, fun q => ⟨q.1, by omega, q.2.2⟩⟩
          simp only [this]
      · have h7 : hol (vHd v) (nI i) p = true := by
          rw [bI_0] at h7
          simpa using h7
        have e9 : nI i * nI 4 + nI 3 = nI (i * 4 + 3) := by rw [pk_mul, nI_add]
        refine ⟨i * 4 + 3, e9, by omega, ?_⟩
        refine ⟨i * 4 + 3, e9, by omega, ?_⟩
        refine ⟨4 - (i + 1), by omega, i + 1, p, upd co (i * 4 + 3) (co (i * 4 + 3) + nI 1), rfl, by omega, hp, fun j => ?_, by rw [nI_add], rfl, rfl, rfl⟩
        unfold upd
        by_cases hj : j = i * 4 + 3
        · subst hj
          have e3 : (i * 4 + 3) / 4 = i := by omega
          rw [if_pos rfl, hco]
          unfold evC
          rw [if_neg (by omega), if_pos ⟨by omega, by omega, by rw [e3]; exact h7⟩]
        · rw [if_neg hj, hco]
          unfold evC
          have : (j % 4 = 3 ∧ j / 4 < i ∧ hol (vHd v) (nI (j / 4)) p = true) ↔ (j % 4 = 3 ∧ j / 4 < i + 1 ∧ hol (vHd v) (nI (j / 4)) p = true) := ⟨fun q => ⟨q.1, by omega, q.2.2⟩, fun q => ⟨q.1, by omega, q.2.2⟩⟩
          simp only [this]
  · refine wr_ok hf hc 5 0 _ _ _ _ _ ?_
    refine ⟨_, _, a, vOw v, vHd v, vSt v, rfl, rfl, ha, rfl, ?_⟩
    refine ⟨fun h7 => ?_, fun h7 => ?_⟩
    · obtain ⟨p, hp⟩ : ∃ p, ptP v t a = some p := by
        cases hq : ptP v t a with
        | none => exact absurd (hno.mpr hq) h7
        | some p => exact ⟨p, rfl⟩
      refine ⟨4, 0, p, vCo v, rfl, by omega, hp, fun j => by unfold evC; rw [if_neg (by omega)], ?_, rfl, rfl, rfl⟩
      show [Value.ref 0, .int (nI t), .int (nI a), .int (oI (ptP v t a)), .int (nI 0)] = _
      rw [hp]
      rfl
    · have hp : ptP v t a = none := hno.mp h7
      have e1 : brV v t a = v := by unfold brV; rw [hp]
      rw [e1] at hK
      exact ⟨w13 v wy r, eqL_rfl _, hK⟩
-- an access
def ntAd (v : gV) (t a : Nat) : Nat → Int32 := if a % 2 = 0 then nAd (vAd v) ((t * 2 + a % 4 / 2) * 8) a else vAd v
def ntGa (v : gV) (t a : Nat) : Nat → Int32 := if a % 2 = 0 then nGa (vAd v) (vGa v) t ((t * 2 + a % 4 / 2) * 8) a else vGa v
def acR (v : gV) (t a : Nat) : Nat := rsl (vOw v) (vHd v) (nI t) a
/-- with the monitor, the access count and the result's count -/
abbrev acA (v : gV) (t a : Nat) : gV := (vOw v, vHd v, vSt v, ntAd v t a, ntGa v t a, vLe v, upd (vCo v) (t * 4 + acR v t a) (vCo v (t * 4 + acR v t a) + nI 1), vEp v, vAc v + nI 1)
abbrev rnV (v : gV) (t a : Nat) : gV := (vOw v, vHd v, (if fF (vHd v) (nI t * nI 256 + nI a) (a % 4 * 8) < 8 then upd (vSt v) (a % 4 * 8 + fF (vHd v) (nI t * nI 256 + nI a) (a % 4 * 8)) (vAc v) else vSt v), vAd v, vGa v, vLe v, vCo v, vEp v, vAc v)
def acB (v : gV) (t a : Nat) : gV := if acR v t a = 1 then rnV (acA v t a) t a else if acR v t a = 0 then brV (acA v t a) t a else acA v t a
abbrev hlV (v : gV) : gV := (vOw v, vHd v, vSt v, vAd v, hlv (vGa v), vLe v, vCo v, vEp v, vAc v)
/-- the end of an epoch -/
def epV (L : Nat → Nat) (v : gV) : gV := if ¬ vEp v = 0 ∧ vAc v - vAc v / vEp v * vEp v = 0 then hlV (mvV L v) else v
def acV (L : Nat → Nat) (v : gV) (t a : Nat) : gV := epV L (acB v t a)
theorem brV_keep (v : gV) (t a : Nat) : vLe (brV v t a) = vLe v ∧ vEp (brV v t a) = vEp v ∧ vAc (brV v t a) = vAc v := by
  unfold brV
  split <;> exact ⟨rfl, rfl, rfl⟩
theorem acB_keep (v : gV) (t a : Nat) : vLe (acB v t a) = vLe v := by
  unfold acB
  split
  · rfl
  · split
    · exact (brV_keep _ t a).1
    · rfl
theorem rsl_le (ow hd : Nat → Int32) (t : Int32) (a : Nat) : rsl ow hd t a ≤ 2 := by
  unfold rsl
  split
  · omega
  · split <;> omega
def sX6_makeAccess : gS := fun av es K => ∃ y z t a v wy r L, av = [.ref 0, .int y, .int z] ∧ y = nI t ∧ z = nI a ∧ t < 4 ∧ a < 256 ∧ (∀ t, t < 4 → vLe v t = nI (L t) ∧ L t ≤ 2) ∧ es = w13 v wy r ∧ ∀ wy', K (some (.int (nI (acR v t a)))) (w13 (acV L v t a) wy' r)
def rmX6_makeAccess : Room := { frames := 4, cells := 0, slots := 0, locals := 96 }
def pX6_makeAccess (K : gK) : List (Nat × gO) := [(0, oFR 13 (oALoad 0)), (1, oGet 6 0), (4, oGet 4 1), (7, oILoad 1), (8, oILoad 2), (9, oCallVR 13 0 0 2 2 [6,7,8] sX2_note), (12, oFR 13 (oALoad 0)), (13, oGet 6 0), (16, oDup), (17, oGet 4 5), (20, oConst (nI 1)), (21, oAdd), (22, oPutI 4 5), (25, oFR 13 (oALoad 0)), (26, oGet 6 0), (29, oGet 4 0), (32, oILoad 1), (33, oILoad 2), (34, oCallVR 13 0 0 3 2 [2,3,4,5] sX3_resultOf), (37, oFR 13 (oIStore 4 3)), (38, oFR 13 (oALoad 0)), (39, oGet 6 0), (42, oGet 4 3), (45, oILoad 1), (46, oConst (nI 4)), (47, oMul), (48, oILoad 3), (49, oAdd), (50, oDup2), (51, oIALd 0), (52, oConst (nI 1)), (53, oAdd), (54, oIASt), (55, oFR 13 (oILoad 3)), (56, oConst (nI 1)), (57, oICmp_ne 82), (60, oALoad 0), (61, oGet 6 0), (64, oGet 4 0), (67, oILoad 1), (68, oILoad 2), (69, oALoad 0), (70, oGet 6 0), (73, oGet 4 5), (76, oCallVR 13 0 0 3 3 [2,3,4,5] sX3_renew), (79, oGoto 92), (82, oFR 13 (oILoad 3)), (83, oIf_ne 92), (86, oALoad 0), (87, oILoad 1), (88, oILoad 2), (89, oCallV0 0 0 6 2 sX6_bringIn), (92, oFR 13 (oALoad 0)), (93, oGet 6 0), (96, oGet 4 4), (99, oIf_eq 135), (102, oALoad 0), (103, oGet 6 0), (106, oGet 4 5), (109, oALoad 0), (110, oGet 6 0), (113, oGet 4 4), (116, oRem), (117, oIf_ne 135), (120, oALoad 0), (121, oCallV0 0 0 6 0 sX6_moveOneWay), (124, oFR 13 (oPop)), (125, oALoad 0), (126, oGet 6 0), (129, oGet 4 1), (132, oCallVR 13 0 0 2 0 [6,7,8] sX2_halve), (135, oFR 13 (oILoad 3)), (136, oRet K 0 0)]
set_option maxRecDepth 100000 in
theorem kX6_makeAccess {X : gX} {l : Launch} (hM : gM X l cX6_makeAccess RX6 wsX6_makeAccess rmX6_makeAccess) {K : gK} (hE : gR X K 0 0 (some .int)) (hnL : X.2.2.2.2.2.2.2.2.2.2.2.2.2.2.2.2 = 4) : okL X (pX6_makeAccess K) := by
  obtain ⟨p, l1, e, R, s, m, args, below, meth, c, D, cA, A, ag, ad0, Q, nL⟩ := X
  cases hnL
  refine ⟨ok_FR (ok_aload_n hM 0 dX6_makeAccess_0 rfl),
    ok_get (C := RX6) (T := TX6) (Nf := 6) hM (fun _ h => List.mem_cons_of_mem _ (List.mem_append_left _ (List.mem_append_left _ (List.mem_append_left _ (List.mem_append_left _ (List.mem_append_right _ h)))))) rfl 0 (by decide) (List.mem_of_getElem? (i := 1) rfl) rfl dX6_makeAccess_1,
    ok_get (C := RX4) (T := TX4) (Nf := 6) hM (fun _ h => List.mem_cons_of_mem _ (List.mem_append_left _ (List.mem_append_left _ (List.mem_append_left _ (List.mem_append_right _ h))))) rfl 1 (by decide) (List.mem_of_getElem? (i := 2) rfl) rfl dX6_makeAccess_4,
    ok_iload_n hM 1 dX6_makeAccess_7 rfl,
    ok_iload_n hM 2 dX6_makeAccess_8 rfl,
    ok_R (ok_callV hM [6,7,8] (ctX2_note l) rfl rfl gX6_makeAccess_X2_note rfl rfl rfl (by decide +kernel) (by decide) dX6_makeAccess_9),
    ok_FR (ok_aload_n hM 0 dX6_makeAccess_12 rfl),
    ok_get (C := RX6) (T := TX6) (Nf := 6) hM (fun _ h => List.mem_cons_of_mem _ (List.mem_append_left _ (List.mem_append_left _ (List.mem_append_left _ (List.mem_append_left _ (List.mem_append_right _ h)))))) rfl 0 (by decide) (List.mem_of_getElem? (i := 1) rfl) rfl dX6_makeAccess_13,
    ok_dup hM dX6_makeAccess_16,
    ok_get (C := RX4) (T := TX4) (Nf := 6) hM (fun _ h => List.mem_cons_of_mem _ (List.mem_append_left _ (List.mem_append_left _ (List.mem_append_left _ (List.mem_append_right _ h))))) rfl 5 (by decide) (List.mem_of_getElem? (i := 3) rfl) rfl dX6_makeAccess_17,
    ok_iconst hM dX6_makeAccess_20 rfl,
    ok_iadd hM dX6_makeAccess_21,
    ok_putI (C := RX4) (T := TX4) (Nf := 6) hM (fun _ h => List.mem_cons_of_mem _ (List.mem_append_left _ (List.mem_append_left _ (List.mem_append_left _ (List.mem_append_right _ h))))) tyX4 tyX4_ok nmX4 rfl 5 (by decide) (List.mem_of_getElem? (i := 3) rfl) rfl rfl (by decide +kernel) dX6_makeAccess_22,
    ok_FR (ok_aload_n hM 0 dX6_makeAccess_25 rfl),
    ok_get (C := RX6) (T := TX6) (Nf := 6) hM (fun _ h => List.mem_cons_of_mem _ (List.mem_append_left _ (List.mem_append_left _ (List.mem_append_left _ (List.mem_append_left _ (List.mem_append_right _ h)))))) rfl 0 (by decide) (List.mem_of_getElem? (i := 1) rfl) rfl dX6_makeAccess_26,
    ok_get (C := RX4) (T := TX4) (Nf := 6) hM (fun _ h => List.mem_cons_of_mem _ (List.mem_append_left _ (List.mem_append_left _ (List.mem_append_left _ (List.mem_append_right _ h))))) rfl 0 (by decide) (List.mem_of_getElem? (i := 4) rfl) rfl dX6_makeAccess_29,
    ok_iload_n hM 1 dX6_makeAccess_32 rfl,
    ok_iload_n hM 2 dX6_makeAccess_33 rfl,
    ok_R (ok_callV hM [2,3,4,5] (ctX3_resultOf l) rfl rfl gX6_makeAccess_X3_resultOf rfl rfl rfl (by decide +kernel) (by decide) dX6_makeAccess_34),
    ok_FR (ok_istore_n hM 3 dX6_makeAccess_37 rfl),
    ok_FR (ok_aload_n hM 0 dX6_makeAccess_38 rfl),
    ok_get (C := RX6) (T := TX6) (Nf := 6) hM (fun _ h => List.mem_cons_of_mem _ (List.mem_append_left _ (List.mem_append_left _ (List.mem_append_left _ (List.mem_append_left _ (List.mem_append_right _ h)))))) rfl 0 (by decide) (List.mem_of_getElem? (i := 1) rfl) rfl dX6_makeAccess_39,
    ok_get (C := RX4) (T := TX4) (Nf := 6) hM (fun _ h => List.mem_cons_of_mem _ (List.mem_append_left _ (List.mem_append_left _ (List.mem_append_left _ (List.mem_append_right _ h))))) rfl 3 (by decide) (List.mem_of_getElem? (i := 5) rfl) rfl dX6_makeAccess_42,
    ok_iload_n hM 1 dX6_makeAccess_45 rfl,
    ok_iconst hM dX6_makeAccess_46 rfl,
    ok_imul hM dX6_makeAccess_47,
    ok_iload_n hM 3 dX6_makeAccess_48 rfl,
    ok_iadd hM dX6_makeAccess_49,
    ok_dup2 hM dX6_makeAccess_50,
    ok_iald hM dX6_makeAccess_51,
    ok_iconst hM dX6_makeAccess_52 rfl,
    ok_iadd hM dX6_makeAccess_53,
    ok_iast hM dX6_makeAccess_54,
    ok_FR (ok_iload_n hM 3 dX6_makeAccess_55 rfl),
    ok_iconst hM dX6_makeAccess_56 rfl,
    ok_icmp_ne hM 82 dX6_makeAccess_57 (by decide),
    ok_aload_n hM 0 dX6_makeAccess_60 rfl,
    ok_get (C := RX6) (T := TX6) (Nf := 6) hM (fun _ h => List.mem_cons_of_mem _ (List.mem_append_left _ (List.mem_append_left _ (List.mem_append_left _ (List.mem_append_left _ (List.mem_append_right _ h)))))) rfl 0 (by decide) (List.mem_of_getElem? (i := 1) rfl) rfl dX6_makeAccess_61,
    ok_get (C := RX4) (T := TX4) (Nf := 6) hM (fun _ h => List.mem_cons_of_mem _ (List.mem_append_left _ (List.mem_append_left _ (List.mem_append_left _ (List.mem_append_right _ h))))) rfl 0 (by decide) (List.mem_of_getElem? (i := 4) rfl) rfl dX6_makeAccess_64,
    ok_iload_n hM 1 dX6_makeAccess_67 rfl,
    ok_iload_n hM 2 dX6_makeAccess_68 rfl,
    ok_aload_n hM 0 dX6_makeAccess_69 rfl,
    ok_get (C := RX6) (T := TX6) (Nf := 6) hM (fun _ h => List.mem_cons_of_mem _ (List.mem_append_left _ (List.mem_append_left _ (List.mem_append_left _ (List.mem_append_left _ (List.mem_append_right _ h)))))) rfl 0 (by decide) (List.mem_of_getElem? (i := 1) rfl) rfl dX6_makeAccess_70,
    ok_get (C := RX4) (T := TX4) (Nf := 6) hM (fun _ h => List.mem_cons_of_mem _ (List.mem_append_left _ (List.mem_append_left _ (List.mem_append_left _ (List.mem_append_right _ h))))) rfl 5 (by decide) (List.mem_of_getElem? (i := 3) rfl) rfl dX6_makeAccess_73,
    ok_R (ok_callV hM [2,3,4,5] (ctX3_renew l) rfl rfl gX6_makeAccess_X3_renew rfl rfl rfl (by decide +kernel) (by decide) dX6_makeAccess_76),
    ok_goto hM 92 dX6_makeAccess_79 (by decide),
    ok_FR (ok_iload_n hM 3 dX6_makeAccess_82 rfl),
    ok_if_ne hM 92 dX6_makeAccess_83 (by decide),
    ok_aload_n hM 0 dX6_makeAccess_86 rfl,
    ok_iload_n hM 1 dX6_makeAccess_87 rfl,
    ok_iload_n hM 2 dX6_makeAccess_88 rfl,
    ok_callV0 hM (ctX6_bringIn l) rfl gX6_makeAccess_X6_bringIn rfl rfl rfl (by decide +kernel) (by decide) dX6_makeAccess_89,
    ok_FR (ok_aload_n hM 0 dX6_makeAccess_92 rfl),
    ok_get (C := RX6) (T := TX6) (Nf := 6) hM (fun _ h => List.mem_cons_of_mem _ (List.mem_append_left _ (List.mem_append_left _ (List.mem_append_left _ (List.mem_append_left _ (List.mem_append_right _ h)))))) rfl 0 (by decide) (List.mem_of_getElem? (i := 1) rfl) rfl dX6_makeAccess_93,
    ok_get (C := RX4) (T := TX4) (Nf := 6) hM (fun _ h => List.mem_cons_of_mem _ (List.mem_append_left _ (List.mem_append_left _ (List.mem_append_left _ (List.mem_append_right _ h))))) rfl 4 (by decide) (List.mem_of_getElem? (i := 6) rfl) rfl dX6_makeAccess_96,
    ok_if_eq hM 135 dX6_makeAccess_99 (by decide),
    ok_aload_n hM 0 dX6_makeAccess_102 rfl,
    ok_get (C := RX6) (T := TX6) (Nf := 6) hM (fun _ h => List.mem_cons_of_mem _ (List.mem_append_left _ (List.mem_append_left _ (List.mem_append_left _ (List.mem_append_left _ (List.mem_append_right _ h)))))) rfl 0 (by decide) (List.mem_of_getElem? (i := 1) rfl) rfl dX6_makeAccess_103,
    ok_get (C := RX4) (T := TX4) (Nf := 6) hM (fun _ h => List.mem_cons_of_mem _ (List.mem_append_left _ (List.mem_append_left _ (List.mem_append_left _ (List.mem_append_right _ h))))) rfl 5 (by decide) (List.mem_of_getElem? (i := 3) rfl) rfl dX6_makeAccess_106,
    ok_aload_n hM 0 dX6_makeAccess_109 rfl,
    ok_get (C := RX6) (T := TX6) (Nf := 6) hM (fun _ h => List.mem_cons_of_mem _ (List.mem_append_left _ (List.mem_append_left _ (List.mem_append_left _ (List.mem_append_left _ (List.mem_append_right _ h)))))) rfl 0 (by decide) (List.mem_of_getElem? (i := 1) rfl) rfl dX6_makeAccess_110,
    ok_get (C := RX4) (T := TX4) (Nf := 6) hM (fun _ h => List.mem_cons_of_mem _ (List.mem_append_left _ (List.mem_append_left _ (List.mem_append_left _ (List.mem_append_right _ h))))) rfl 4 (by decide) (List.mem_of_getElem? (i := 6) rfl) rfl dX6_makeAccess_113,
    ok_irem hM dX6_makeAccess_116,
    ok_if_ne hM 135 dX6_makeAccess_117 (by decide),
    ok_aload_n hM 0 dX6_makeAccess_120 rfl,
    ok_callV0 hM (ctX6_moveOneWay l) rfl gX6_makeAccess_X6_moveOneWay rfl rfl rfl (by decide +kernel) (by decide) dX6_makeAccess_121,
    ok_FR (ok_pop hM dX6_makeAccess_124),
    ok_aload_n hM 0 dX6_makeAccess_125 rfl,
    ok_get (C := RX6) (T := TX6) (Nf := 6) hM (fun _ h => List.mem_cons_of_mem _ (List.mem_append_left _ (List.mem_append_left _ (List.mem_append_left _ (List.mem_append_left _ (List.mem_append_right _ h)))))) rfl 0 (by decide) (List.mem_of_getElem? (i := 1) rfl) rfl dX6_makeAccess_126,
    ok_get (C := RX4) (T := TX4) (Nf := 6) hM (fun _ h => List.mem_cons_of_mem _ (List.mem_append_left _ (List.mem_append_left _ (List.mem_append_left _ (List.mem_append_right _ h))))) rfl 1 (by decide) (List.mem_of_getElem? (i := 2) rfl) rfl dX6_makeAccess_129,
    ok_R (ok_callV hM [6,7,8] (ctX2_halve l) rfl rfl gX6_makeAccess_X2_halve rfl rfl rfl (by decide +kernel) (by decide) dX6_makeAccess_132),
    ok_FR (ok_iload_n hM 3 dX6_makeAccess_135 rfl),
    ok_ret hM hE dX6_makeAccess_136,
    trivial⟩
set_option maxRecDepth 100000 in
theorem ctX6_makeAccess (l : Launch) : Ct l yX6_makeAccess wsX6_makeAccess rmX6_makeAccess 0 0 false sX6_makeAccess := by
  refine ct_of (own := RX6) (cc := cX6_makeAccess) (maxL := 4) (ret := (some .int)) (by decide) rfl rfl (by rintro _ _ _ ⟨y, z, t, a, v, wy, r, L, rfl, rfl, rfl, ht, ha, hL, rfl, hK⟩; exact Nat.le_of_ble_eq_true rfl) ?_
  intro X av es K hM hE hag hin hnL hsp
  obtain ⟨y, z, t, a, v, wy, r, L, rfl, rfl, rfl, ht, ha, hL, rfl, hK⟩ := hsp
  have hf := kX6_makeAccess hM hE hnL
  have hr2 : acR v t a ≤ 2 := rsl_le _ _ _ _
  refine g_with (X := X) 92 [0, 3] (fun μ vs es k n => μ = 0 ∧ vs = [.ref 0, .int (nI (acR v t a))] ∧ es = w13 (acB v t a) wy r ∧ k = 0 ∧ n = 0) cut_nil (fun μ hc vs es k n hI => ?_) (fun hc => ?_)
  · obtain ⟨rfl, rfl, rfl, rfl, rfl⟩ := hI
    have hLb := acB_keep v t a
    unfold acV epV at hK
    generalize acB v t a = w at hK hLb
    refine g_go hf hc 5 ?_
    refine ⟨fun h1 => ?_, fun h1 => ?_⟩
    · rw [if_neg (fun q => q.1 h1)] at hK
      exact hK wy
    · refine ⟨h1, ?_⟩
      refine ⟨fun h2 => ?_, fun h2 => ?_⟩
      · rw [if_neg (fun q => h2 q.2)] at hK
        exact hK wy
      · rw [if_pos ⟨h1, h2⟩] at hK
        refine ⟨w, wy, r, L, rfl, fun t ht => by rw [hLb]; exact hL t ht, rfl, fun wy' => ?_⟩
        refine ⟨vAd w, vGa w, rfl, rfl, ?_⟩
        exact hK wy'
  · refine wr_ok hf hc 5 0 _ _ _ _ _ ?_
    refine ⟨_, _, t, a, vAd v, vGa v, rfl, rfl, rfl, ht, ha, rfl, ?_⟩
    refine ⟨_, _, a, vOw v, vHd v, vSt v, rfl, rfl, ha, rfl, ?_⟩
    have e9 : nI t * nI 4 + nI (rsl (vOw v) (vHd v) (nI t) a) = nI (t * 4 + acR v t a) := by rw [pk_mul, nI_add]; rfl
    refine ⟨t * 4 + acR v t a, e9, by omega, ?_⟩
    refine ⟨t * 4 + acR v t a, e9, by omega, ?_⟩
    refine ⟨fun h1 => ?_, fun h1 => ?_⟩
    · have h2 : ¬ acR v t a = 1 := fun q => h1 (by show nI (acR v t a) = nI 1; rw [q])
      refine ⟨fun h3 => ?_, fun h3 => ?_⟩
      · have h4 : ¬ acR v t a = 0 := fun q => h3 (by show nI (acR v t a) = nI 0; rw [q])
        have e1 : acB v t a = acA v t a := by unfold acB; rw [if_neg h2, if_neg h4]
        rw [e1]
        exact ⟨0, rfl, rfl, rfl, rfl, rfl⟩
      · have h4 : acR v t a = 0 := (nI_eq (by omega) (by decide)).mp h3
        have e1 : acB v t a = brV (acA v t a) t a := by unfold acB; rw [if_neg h2, if_pos h4]
        rw [e1]
        refine ⟨_, _, t, a, acA v t a, wy, r, rfl, rfl, rfl, ht, ha, rfl, ?_⟩
        exact ⟨0, rfl, rfl, rfl, rfl, rfl⟩
    · have h2 : acR v t a = 1 := (nI_eq (by omega) (by decide)).mp h1
      refine ⟨_, _, a, _, vOw v, vHd v, vSt v, rfl, rfl, ha, rfl, ?_⟩
      generalize hst : (if fF (vHd v) (nI t * nI 256 + nI a) (a % 4 * 8) < 8 then upd (vSt v) (a % 4 * 8 + fF (vHd v) (nI t * nI 256 + nI a) (a % 4 * 8)) (vAc v + nI 1) else vSt v) = st'
      have e1 : acB v t a = (vOw v, vHd v, st', ntAd v t a, ntGa v t a, vLe v, upd (vCo v) (t * 4 + acR v t a) (vCo v (t * 4 + acR v t a) + nI 1), vEp v, vAc v + nI 1) := by
        rw [← hst]
        unfold acB
        rw [if_pos h2]
      rw [e1]
      exact ⟨0, rfl, rfl, rfl, rfl, rfl⟩
end MQ1

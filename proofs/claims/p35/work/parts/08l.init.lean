/-! Constructors of Places and State. -/
section MI2
abbrev owI : Nat → Int32 := fun j => nI (j % 4)
abbrev m1I : Nat → Int32 := fun _ => -1
abbrev z0I : Nat → Int32 := fun _ => 0
def sX3_init : gS := fun av es K => av = [.ref 0] ∧ es = [.inr (3, [.null, .null, .null])] ∧ K none (plE owI m1I z0I)
def rmX3_init : Room := { frames := 1, cells := 3, slots := 72, locals := 60 }
def pX3_init (K : gK) : List (Nat × gO) := [(0, oF (oALoad 0)), (1, oObj 60), (4, oALoad 0), (5, oConst (nI 8)), (7, oNewA 3 72 1 0), (9, oF (oPutR 3 0)), (12, oF (oALoad 0)), (13, oConst (nI 32)), (15, oNewA 3 72 1 0), (17, oF (oPutR 3 1)), (20, oF (oALoad 0)), (21, oConst (nI 32)), (23, oNewA 3 72 1 0), (25, oF (oPutR 3 2)), (28, oConst (nI 0)), (29, oF (oIStore 2 1)), (30, oF (oILoad 1)), (31, oConst (nI 8)), (33, oICmp_ge 51), (36, oALoad 0), (37, oGet 3 0), (40, oILoad 1), (41, oILoad 1), (42, oConst (nI 4)), (43, oRem), (44, oIASt), (45, oF (oIInc 2 1 (nI 1))), (48, oGoto 30), (51, oConst (nI 0)), (52, oF (oIStore 2 1)), (53, oF (oILoad 1)), (54, oConst (nI 32)), (56, oICmp_ge 72), (59, oALoad 0), (60, oGet 3 1), (63, oILoad 1), (64, oConst (-1)), (65, oIASt), (66, oF (oIInc 2 1 (nI 1))), (69, oGoto 53), (72, oF (oRetV K 3 72))]
set_option maxRecDepth 100000 in
theorem kX3_init {X : gX} {l : Launch} (hM : gM X l cX3_init RX3 wsX3_init rmX3_init) {K : gK} (hE : gR X K 3 72 none) (hin : gInit X) (hA0 : gN0 X 1) (hnL : X.2.2.2.2.2.2.2.2.2.2.2.2.2.2.2.2 = 2) : okL X (pX3_init K) := by
  obtain ⟨p, l1, e, R, s, m, args, below, meth, c, D, cA, A, ag, ad0, Q, nL⟩ := X
  cases hnL
  refine ⟨ok_F (ok_aload_n hM 0 dX3_init_0 rfl),
    ok_obj hM (List.mem_of_getElem? (i := 1) rfl) (List.mem_of_getElem? (i := 2) rfl) (List.mem_of_getElem? (i := 3) rfl) (by decide) dX3_init_1,
    ok_aload_n hM 0 dX3_init_4 rfl,
    ok_bipush hM dX3_init_5 rfl,
    ok_newa0 hM hA0 (List.mem_of_getElem? (i := 4) rfl) dX3_init_7,
    ok_F (ok_putRAF (ct := .int) (C := RX3) (T := TX3) (Nf := 3) hM (fun _ h => List.mem_cons_of_mem _ (List.mem_append_right _ h)) tyX3 tyX3_ok nmX3 rfl 0 (by decide) (List.mem_of_getElem? (i := 5) rfl) rfl rfl hin rfl (by decide +kernel) dX3_init_9),
    ok_F (ok_aload_n hM 0 dX3_init_12 rfl),
    ok_bipush hM dX3_init_13 rfl,
    ok_newa0 hM hA0 (List.mem_of_getElem? (i := 4) rfl) dX3_init_15,
    ok_F (ok_putRAF (ct := .int) (C := RX3) (T := TX3) (Nf := 3) hM (fun _ h => List.mem_cons_of_mem _ (List.mem_append_right _ h)) tyX3 tyX3_ok nmX3 rfl 1 (by decide) (List.mem_of_getElem? (i := 6) rfl) rfl rfl hin rfl (by decide +kernel) dX3_init_17),
    ok_F (ok_aload_n hM 0 dX3_init_20 rfl),
    ok_bipush hM dX3_init_21 rfl,
    ok_newa0 hM hA0 (List.mem_of_getElem? (i := 4) rfl) dX3_init_23,
    ok_F (ok_putRAF (ct := .int) (C := RX3) (T := TX3) (Nf := 3) hM (fun _ h => List.mem_cons_of_mem _ (List.mem_append_right _ h)) tyX3 tyX3_ok nmX3 rfl 2 (by decide) (List.mem_of_getElem? (i := 7) rfl) rfl rfl hin rfl (by decide +kernel) dX3_init_25),
    ok_iconst hM dX3_init_28 rfl,
    ok_F (ok_istore_n hM 1 dX3_init_29 rfl),
    ok_F (ok_iload_n hM 1 dX3_init_30 rfl),
    ok_bipush hM dX3_init_31 rfl,
    ok_icmp_ge hM 51 dX3_init_33 (by decide),
    ok_aload_n hM 0 dX3_init_36 rfl,
    ok_get (C := RX3) (T := TX3) (Nf := 3) hM (fun _ h => List.mem_cons_of_mem _ (List.mem_append_right _ h)) rfl 0 (by decide) (List.mem_of_getElem? (i := 5) rfl) rfl dX3_init_37,
    ok_iload_n hM 1 dX3_init_40 rfl,
    ok_iload_n hM 1 dX3_init_41 rfl,
    ok_iconst hM dX3_init_42 rfl,
    ok_irem hM dX3_init_43,
    ok_iast hM dX3_init_44,
    ok_F (ok_iinc hM 1 dX3_init_45 rfl),
    ok_goto hM 30 dX3_init_48 (by decide),
    ok_iconst hM dX3_init_51 rfl,
    ok_F (ok_istore_n hM 1 dX3_init_52 rfl),
    ok_F (ok_iload_n hM 1 dX3_init_53 rfl),
    ok_bipush hM dX3_init_54 rfl,
    ok_icmp_ge hM 72 dX3_init_56 (by decide),
    ok_aload_n hM 0 dX3_init_59 rfl,
    ok_get (C := RX3) (T := TX3) (Nf := 3) hM (fun _ h => List.mem_cons_of_mem _ (List.mem_append_right _ h)) rfl 1 (by decide) (List.mem_of_getElem? (i := 6) rfl) rfl dX3_init_60,
    ok_iload_n hM 1 dX3_init_63 rfl,
    ok_iconst hM dX3_init_64 rfl,
    ok_iast hM dX3_init_65,
    ok_F (ok_iinc hM 1 dX3_init_66 rfl),
    ok_goto hM 53 dX3_init_69 (by decide),
    ok_F (ok_retV hM hE dX3_init_72),
    trivial⟩
set_option maxRecDepth 100000 in
theorem ctX3_init (l : Launch) : Ct l yX3_init wsX3_init rmX3_init 3 72 true sX3_init := by
  refine ct_of (own := RX3) (cc := cX3_init) (maxL := 2) (ret := none) (by decide) rfl rfl (by rintro _ _ _ ⟨rfl, rfl, hK⟩; exact Nat.le_of_ble_eq_true rfl) ?_
  intro X av es K hM hE hag hin hnL hsp
  obtain ⟨rfl, rfl, hK⟩ := hsp
  have hf := kX3_init hM (gR_eqv hE) (hin rfl) (gN0_of hag) hnL
  refine g_with (X := X) 53 [0, 1] (fun μ vs es k n => ∃ (i : Nat) (f g : Nat → Int32), μ = 32 - i ∧ i ≤ 32 ∧ (∀ j, j < 8 → f j = nI (j % 4)) ∧ (∀ j, j < i → g j = -1) ∧ vs = [.ref 0, .int (nI i)] ∧ es = plE f g z0I ∧ k = 3 ∧ n = 72) cut_nil (fun μ hc vs es k n hI => ?_) (fun hc => ?_)
  · obtain ⟨i, f, g, rfl, hi, hf0, hg0, rfl, rfl, rfl, rfl⟩ := hI
    refine g_go hf hc 5 ?_
    refine ⟨fun h => ?_, fun h => ?_⟩
    · have h4 : i = 32 := by
        rw [nI_leI (by decide) (by omega)] at h
        omega
      subst h4
      exact ⟨plE owI m1I z0I, ⟨rfl, ⟨rfl, rfl, fun j hj => hf0 j hj⟩, ⟨rfl, rfl, fun j hj => hg0 j hj⟩, eqE_rfl _, trivial⟩, hK⟩
    · have h4 : i < 32 := by
        rw [nI_leI (by decide) (by omega)] at h
        omega
      refine ⟨i, rfl, h4, ?_⟩
      refine ⟨32 - (i + 1), by omega, i + 1, f, upd g i (-1), rfl, by omega, hf0, fun j hj => ?_, by rw [nI_add], rfl, rfl, rfl⟩
      unfold upd
      by_cases h6 : j = i
      · rw [if_pos h6]
      · rw [if_neg h6]
        exact hg0 j (by omega)
  · refine g_with (X := X) 30 [0, 1] (fun μ vs es k n => ∃ (i : Nat) (f : Nat → Int32), μ = 8 - i ∧ i ≤ 8 ∧ (∀ j, j < i → f j = nI (j % 4)) ∧ vs = [.ref 0, .int (nI i)] ∧ es = plE f z0I z0I ∧ k = 3 ∧ n = 72) hc (fun μ hc2 vs es k n hI => ?_) (fun hc2 => ?_)
    · obtain ⟨i, f, rfl, hi, hf0, rfl, rfl, rfl, rfl⟩ := hI
      refine g_go hf hc2 5 ?_
      refine ⟨fun h => ?_, fun h => ?_⟩
      · have h4 : i = 8 := by
          rw [nI_leI (by decide) (by omega)] at h
          omega
        subst h4
        exact ⟨32, 0, f, z0I, rfl, by omega, hf0, fun j hj => by omega, rfl, rfl, rfl, rfl⟩
      · have h4 : i < 8 := by
          rw [nI_leI (by decide) (by omega)] at h
          omega
        refine ⟨by decide, ?_⟩
        refine ⟨i, rfl, h4, ?_⟩
        refine ⟨8 - (i + 1), by omega, i + 1, upd f i (nI (i % 4)), rfl, by omega, fun j hj => ?_, by rw [nI_add], by rw [rem4 (by omega)], rfl, rfl⟩
        unfold upd
        by_cases h6 : j = i
        · rw [if_pos h6, h6]
        · rw [if_neg h6]
          exact hf0 j (by omega)
    · refine wr_ok hf hc2 5 0 _ _ _ _ _ ?_
      refine ⟨1, 8, rfl, rfl, ?_⟩
      refine ⟨2, 32, rfl, rfl, ?_⟩
      refine ⟨3, 32, rfl, rfl, ?_⟩
      exact ⟨8, 0, z0I, rfl, by omega, fun j hj => by omega, rfl, rfl, rfl, rfl⟩
/-- the state at the beginning -/
abbrev vIni : gV := (owI, m1I, z0I, m1I, z0I, fun _ => nI 1, z0I, 0, 0)
def sX4_init : gS := fun av es K => av = [.ref 0] ∧ es = [.inr (4, [.null, .null, .null, .null, .int 0, .int 0])] ∧ K none (st0 vIni)
def rmX4_init : Room := { frames := 2, cells := 9, slots := 193, locals := 81 }
def pX4_init (K : gK) : List (Nat × gO) := [(0, oF (oALoad 0)), (1, oObj 81), (4, oALoad 0), (5, oNew 9 193 1 3 3 [.null, .null, .null]), (8, oF (oDup)), (9, oCallI 9 193 3 72 1 sX3_init), (12, oF (oPutR 4 0)), (15, oF (oALoad 0)), (16, oNew 9 193 1 2 2 [.null, .null]), (19, oF (oDup)), (20, oCallI 9 193 2 96 1 sX2_init), (23, oF (oPutR 4 1)), (26, oF (oALoad 0)), (27, oConst (nI 4)), (28, oNewA 9 193 1 0), (30, oF (oPutR 4 2)), (33, oF (oALoad 0)), (34, oConst (nI 16)), (36, oNewA 9 193 1 0), (38, oF (oPutR 4 3)), (41, oF (oALoad 0)), (42, oConst (nI 0)), (43, oPutI 4 4), (46, oF (oALoad 0)), (47, oConst (nI 0)), (48, oPutI 4 5), (51, oConst (nI 0)), (52, oF (oIStore 2 1)), (53, oF (oILoad 1)), (54, oConst (nI 4)), (55, oICmp_ge 71), (58, oALoad 0), (59, oGet 4 2), (62, oILoad 1), (63, oConst (nI 1)), (64, oIASt), (65, oF (oIInc 2 1 (nI 1))), (68, oGoto 53), (71, oF (oRetV K 9 193))]
set_option maxRecDepth 100000 in
theorem kX4_init {X : gX} {l : Launch} (hM : gM X l cX4_init RX4 wsX4_init rmX4_init) {K : gK} (hE : gR X K 9 193 none) (hin : gInit X) (hA0 : gN0 X 1) (hnL : X.2.2.2.2.2.2.2.2.2.2.2.2.2.2.2.2 = 2) : okL X (pX4_init K) := by
  obtain ⟨p, l1, e, R, s, m, args, below, meth, c, D, cA, A, ag, ad0, Q, nL⟩ := X
  cases hnL
  refine ⟨ok_F (ok_aload_n hM 0 dX4_init_0 rfl),
    ok_obj hM (List.mem_of_getElem? (i := 1) rfl) (List.mem_of_getElem? (i := 2) rfl) (List.mem_of_getElem? (i := 3) rfl) (by decide) dX4_init_1,
    ok_aload_n hM 0 dX4_init_4 rfl,
    ok_new (C := RX3) (T := TX3) hM hA0 (fun _ h => List.mem_cons_of_mem _ (List.mem_append_left _ (List.mem_append_left _ (List.mem_append_right _ h)))) tyX3 tyX3_ok (List.mem_of_getElem? (i := 4) rfl) (List.mem_of_getElem? (i := 5) rfl) (List.mem_of_getElem? (i := 6) rfl) rfl (by decide) dX4_init_5,
    ok_F (ok_dup hM dX4_init_8),
    ok_callI hM hA0 (ctX3_init l) gX4_init_X3_init rfl rfl rfl (List.mem_of_getElem? (i := 17) rfl) (List.mem_of_getElem? (i := 6) rfl) (List.mem_of_getElem? (i := 18) rfl) rfl (by decide +kernel) (by decide) dX4_init_9,
    ok_F (ok_putRF (cn := "PartitionedCache$Places") (C := RX4) (T := TX4) (Nf := 6) hM (fun _ h => List.mem_cons_of_mem _ (List.mem_append_left _ (List.mem_append_right _ h))) tyX4 tyX4_ok nmX4 rfl 0 (by decide) (List.mem_of_getElem? (i := 7) rfl) rfl rfl hin rfl (by decide +kernel) dX4_init_12),
    ok_F (ok_aload_n hM 0 dX4_init_15 rfl),
    ok_new (C := RX2) (T := TX2) hM hA0 (fun _ h => List.mem_cons_of_mem _ (List.mem_append_right _ h)) tyX2 tyX2_ok (List.mem_of_getElem? (i := 8) rfl) (List.mem_of_getElem? (i := 9) rfl) (List.mem_of_getElem? (i := 10) rfl) rfl (by decide) dX4_init_16,
    ok_F (ok_dup hM dX4_init_19),
    ok_callI hM hA0 (ctX2_init l) gX4_init_X2_init rfl rfl rfl (List.mem_of_getElem? (i := 24) rfl) (List.mem_of_getElem? (i := 10) rfl) (List.mem_of_getElem? (i := 25) rfl) rfl (by decide +kernel) (by decide) dX4_init_20,
    ok_F (ok_putRF (cn := "PartitionedCache$Monitors") (C := RX4) (T := TX4) (Nf := 6) hM (fun _ h => List.mem_cons_of_mem _ (List.mem_append_left _ (List.mem_append_right _ h))) tyX4 tyX4_ok nmX4 rfl 1 (by decide) (List.mem_of_getElem? (i := 11) rfl) rfl rfl hin rfl (by decide +kernel) dX4_init_23),
    ok_F (ok_aload_n hM 0 dX4_init_26 rfl),
    ok_iconst hM dX4_init_27 rfl,
    ok_newa0 hM hA0 (List.mem_of_getElem? (i := 12) rfl) dX4_init_28,
    ok_F (ok_putRAF (ct := .int) (C := RX4) (T := TX4) (Nf := 6) hM (fun _ h => List.mem_cons_of_mem _ (List.mem_append_left _ (List.mem_append_right _ h))) tyX4 tyX4_ok nmX4 rfl 2 (by decide) (List.mem_of_getElem? (i := 13) rfl) rfl rfl hin rfl (by decide +kernel) dX4_init_30),
    ok_F (ok_aload_n hM 0 dX4_init_33 rfl),
    ok_bipush hM dX4_init_34 rfl,
    ok_newa0 hM hA0 (List.mem_of_getElem? (i := 12) rfl) dX4_init_36,
    ok_F (ok_putRAF (ct := .int) (C := RX4) (T := TX4) (Nf := 6) hM (fun _ h => List.mem_cons_of_mem _ (List.mem_append_left _ (List.mem_append_right _ h))) tyX4 tyX4_ok nmX4 rfl 3 (by decide) (List.mem_of_getElem? (i := 14) rfl) rfl rfl hin rfl (by decide +kernel) dX4_init_38),
    ok_F (ok_aload_n hM 0 dX4_init_41 rfl),
    ok_iconst hM dX4_init_42 rfl,
    ok_putI (C := RX4) (T := TX4) (Nf := 6) hM (fun _ h => List.mem_cons_of_mem _ (List.mem_append_left _ (List.mem_append_right _ h))) tyX4 tyX4_ok nmX4 rfl 4 (by decide) (List.mem_of_getElem? (i := 15) rfl) rfl rfl (by decide +kernel) dX4_init_43,
    ok_F (ok_aload_n hM 0 dX4_init_46 rfl),
    ok_iconst hM dX4_init_47 rfl,
    ok_putI (C := RX4) (T := TX4) (Nf := 6) hM (fun _ h => List.mem_cons_of_mem _ (List.mem_append_left _ (List.mem_append_right _ h))) tyX4 tyX4_ok nmX4 rfl 5 (by decide) (List.mem_of_getElem? (i := 16) rfl) rfl rfl (by decide +kernel) dX4_init_48,
    ok_iconst hM dX4_init_51 rfl,
    ok_F (ok_istore_n hM 1 dX4_init_52 rfl),
    ok_F (ok_iload_n hM 1 dX4_init_53 rfl),
    ok_iconst hM dX4_init_54 rfl,
    ok_icmp_ge hM 71 dX4_init_55 (by decide),
    ok_aload_n hM 0 dX4_init_58 rfl,
    ok_get (C := RX4) (T := TX4) (Nf := 6) hM (fun _ h => List.mem_cons_of_mem _ (List.mem_append_left _ (List.mem_append_right _ h))) rfl 2 (by decide) (List.mem_of_getElem? (i := 13) rfl) rfl dX4_init_59,
    ok_iload_n hM 1 dX4_init_62 rfl,
    ok_iconst hM dX4_init_63 rfl,
    ok_iast hM dX4_init_64,
    ok_F (ok_iinc hM 1 dX4_init_65 rfl),
    ok_goto hM 53 dX4_init_68 (by decide),
    ok_F (ok_retV hM hE dX4_init_71),
    trivial⟩
set_option maxRecDepth 100000 in
theorem ctX4_init (l : Launch) : Ct l yX4_init wsX4_init rmX4_init 9 193 true sX4_init := by
  refine ct_of (own := RX4) (cc := cX4_init) (maxL := 2) (ret := none) (by decide) rfl rfl (by rintro _ _ _ ⟨rfl, rfl, hK⟩; exact Nat.le_of_ble_eq_true rfl) ?_
  intro X av es K hM hE hag hin hnL hsp
  obtain ⟨rfl, rfl, hK⟩ := hsp
  have hf := kX4_init hM (gR_eqv hE) (hin rfl) (gN0_of hag) hnL
  refine g_with (X := X) 53 [0, 1] (fun μ vs es k n => ∃ (i : Nat) (f : Nat → Int32), μ = 4 - i ∧ i ≤ 4 ∧ (∀ j, j < i → f j = nI 1) ∧ vs = [.ref 0, .int (nI i)] ∧ es = st0 (owI, m1I, z0I, m1I, z0I, f, z0I, 0, 0) ∧ k = 9 ∧ n = 193) cut_nil (fun μ hc vs es k n hI => ?_) (fun hc => ?_)
  · obtain ⟨i, f, rfl, hi, hf0, rfl, rfl, rfl, rfl⟩ := hI
    refine g_go hf hc 5 ?_
    refine ⟨fun h => ?_, fun h => ?_⟩
    · have h4 : i = 4 := by
        rw [nI_leI (by decide) (by omega)] at h
        omega
      subst h4
      exact ⟨st0 vIni, ⟨rfl, rfl, eqE_rfl _, eqE_rfl _, eqE_rfl _, rfl, eqE_rfl _, eqE_rfl _, ⟨rfl, rfl, fun j hj => hf0 j hj⟩, eqE_rfl _, trivial⟩, hK⟩
    · have h4 : i < 4 := by
        rw [nI_leI (by decide) (by omega)] at h
        omega
      refine ⟨i, rfl, h4, ?_⟩
      refine ⟨4 - (i + 1), by omega, i + 1, upd f i (nI 1), rfl, by omega, fun j hj => ?_, by rw [nI_add], rfl, rfl, rfl⟩
      unfold upd
      by_cases h6 : j = i
      · rw [if_pos h6]
      · rw [if_neg h6]
        exact hf0 j (by omega)
  · refine wr_ok hf hc 5 0 _ _ _ _ _ ?_
    refine ⟨1, rfl, ?_⟩
    refine ⟨2, rfl, rfl, rfl, ?_⟩
    refine ⟨5, rfl, ?_⟩
    refine ⟨6, rfl, rfl, rfl, ?_⟩
    refine ⟨8, 4, rfl, rfl, ?_⟩
    refine ⟨9, 16, rfl, rfl, ?_⟩
    exact ⟨4, 0, z0I, rfl, by omega, fun j hj => by omega, rfl, rfl, rfl, rfl⟩
end MI2

/-! PartitionedCacheModel: its constructor. -/
section MM18
def rIni : Nat → Int32 := fun j => if j < 8 then nI (j % 4) else if j < 40 then -1 else if 184 ≤ j ∧ j < 188 then nI 1 else nI 0
def rI1 (a b c : Nat) : Nat → Int32 := fun j => if j < a then nI (j % 4) else if 8 ≤ j ∧ j < 8 + b then -1 else if 184 ≤ j ∧ j < 184 + c then nI 1 else nI 0
abbrev mdI (R : Nat → Int32) : List gE := mdW R z0I z0I z0I z0I z0I (nI 0) (nI 0) (nI 0) (nI 0) (nI 0) []
def sX7_init : gS := fun av es K => av = [.ref 0] ∧ es = [.inr (7, [.null, .null, .null, .null, .int 0, .null, .null, .int 0, .int 0, .int 0, .int 0])] ∧ K none (mdI rIni)
def rmX7_init : Room := { frames := 1, cells := 6, slots := 1940, locals := 60 }
def pX7_init (K : gK) : List (Nat × gO) := [(0, oF (oALoad 0)), (1, oObj 60), (4, oALoad 0), (5, oConst (nI 206)), (8, oNewA 6 1940 1 0), (10, oF (oPutR 7 0)), (13, oF (oALoad 0)), (14, oConst (nI 1236)), (17, oNewA 6 1940 1 0), (19, oF (oPutR 7 1)), (22, oF (oALoad 0)), (23, oConst (nI 412)), (26, oNewA 6 1940 1 0), (28, oF (oPutR 7 2)), (31, oF (oALoad 0)), (32, oConst (nI 2)), (33, oNewA 6 1940 1 2), (35, oF (oPutR 7 3)), (38, oF (oALoad 0)), (39, oConst (nI 4)), (40, oNewA 6 1940 1 0), (42, oF (oPutR 7 5)), (45, oF (oALoad 0)), (46, oConst (nI 80)), (48, oNewA 6 1940 1 0), (50, oF (oPutR 7 6)), (53, oConst (nI 0)), (54, oF (oIStore 2 1)), (55, oF (oILoad 1)), (56, oConst (nI 8)), (58, oICmp_ge 78), (61, oALoad 0), (62, oGet 7 0), (65, oConst (nI 0)), (66, oILoad 1), (67, oAdd), (68, oILoad 1), (69, oConst (nI 4)), (70, oRem), (71, oIASt), (72, oF (oIInc 2 1 (nI 1))), (75, oGoto 55), (78, oConst (nI 0)), (79, oF (oIStore 2 1)), (80, oF (oILoad 1)), (81, oConst (nI 32)), (83, oICmp_ge 102), (86, oALoad 0), (87, oGet 7 0), (90, oConst (nI 8)), (92, oILoad 1), (93, oAdd), (94, oConst (-1)), (95, oIASt), (96, oF (oIInc 2 1 (nI 1))), (99, oGoto 80), (102, oConst (nI 0)), (103, oF (oIStore 2 1)), (104, oF (oILoad 1)), (105, oConst (nI 4)), (106, oICmp_ge 126), (109, oALoad 0), (110, oGet 7 0), (113, oConst (nI 184)), (116, oILoad 1), (117, oAdd), (118, oConst (nI 1)), (119, oIASt), (120, oF (oIInc 2 1 (nI 1))), (123, oGoto 104), (126, oF (oRetV K 6 1940))]
set_option maxRecDepth 100000 in
theorem kX7_init {X : gX} {l : Launch} (hM : gM X l cX7_init RX7 wsX7_init rmX7_init) {K : gK} (hE : gR X K 6 1940 none) (hin : gInit X) (hA0 : gN0 X 1) (hnL : X.2.2.2.2.2.2.2.2.2.2.2.2.2.2.2.2 = 2) : okL X (pX7_init K) := by
  obtain ⟨p, l1, e, R, s, m, args, below, meth, c, D, cA, A, ag, ad0, Q, nL⟩ := X
  cases hnL
  refine ⟨ok_F (ok_aload_n hM 0 dX7_init_0 rfl),
    ok_obj hM (List.mem_of_getElem? (i := 1) rfl) (List.mem_of_getElem? (i := 2) rfl) (List.mem_of_getElem? (i := 3) rfl) (by decide) dX7_init_1,
    ok_aload_n hM 0 dX7_init_4 rfl,
    ok_sipush hM dX7_init_5 rfl,
    ok_newa0 hM hA0 (List.mem_of_getElem? (i := 4) rfl) dX7_init_8,
    ok_F (ok_putRAF (ct := .int) (C := RX7) (T := TX7) (Nf := 11) hM (fun _ h => List.mem_cons_of_mem _ (List.mem_append_right _ h)) tyX7 tyX7_ok nmX7 rfl 0 (by decide) (List.mem_of_getElem? (i := 5) rfl) rfl rfl hin rfl (by decide +kernel) dX7_init_10),
    ok_F (ok_aload_n hM 0 dX7_init_13 rfl),
    ok_sipush hM dX7_init_14 rfl,
    ok_newa0 hM hA0 (List.mem_of_getElem? (i := 4) rfl) dX7_init_17,
    ok_F (ok_putRAF (ct := .int) (C := RX7) (T := TX7) (Nf := 11) hM (fun _ h => List.mem_cons_of_mem _ (List.mem_append_right _ h)) tyX7 tyX7_ok nmX7 rfl 1 (by decide) (List.mem_of_getElem? (i := 6) rfl) rfl rfl hin rfl (by decide +kernel) dX7_init_19),
    ok_F (ok_aload_n hM 0 dX7_init_22 rfl),
    ok_sipush hM dX7_init_23 rfl,
    ok_newa0 hM hA0 (List.mem_of_getElem? (i := 4) rfl) dX7_init_26,
    ok_F (ok_putRAF (ct := .int) (C := RX7) (T := TX7) (Nf := 11) hM (fun _ h => List.mem_cons_of_mem _ (List.mem_append_right _ h)) tyX7 tyX7_ok nmX7 rfl 2 (by decide) (List.mem_of_getElem? (i := 7) rfl) rfl rfl hin rfl (by decide +kernel) dX7_init_28),
    ok_F (ok_aload_n hM 0 dX7_init_31 rfl),
    ok_iconst hM dX7_init_32 rfl,
    ok_newa2 hM hA0 (List.mem_of_getElem? (i := 8) rfl) dX7_init_33,
    ok_F (ok_putRAF (ct := .boolean) (C := RX7) (T := TX7) (Nf := 11) hM (fun _ h => List.mem_cons_of_mem _ (List.mem_append_right _ h)) tyX7 tyX7_ok nmX7 rfl 3 (by decide) (List.mem_of_getElem? (i := 9) rfl) rfl rfl hin rfl (by decide +kernel) dX7_init_35),
    ok_F (ok_aload_n hM 0 dX7_init_38 rfl),
    ok_iconst hM dX7_init_39 rfl,
    ok_newa0 hM hA0 (List.mem_of_getElem? (i := 4) rfl) dX7_init_40,
    ok_F (ok_putRAF (ct := .int) (C := RX7) (T := TX7) (Nf := 11) hM (fun _ h => List.mem_cons_of_mem _ (List.mem_append_right _ h)) tyX7 tyX7_ok nmX7 rfl 5 (by decide) (List.mem_of_getElem? (i := 10) rfl) rfl rfl hin rfl (by decide +kernel) dX7_init_42),
    ok_F (ok_aload_n hM 0 dX7_init_45 rfl),
    ok_bipush hM dX7_init_46 rfl,
    ok_newa0 hM hA0 (List.mem_of_getElem? (i := 4) rfl) dX7_init_48,
    ok_F (ok_putRAF (ct := .int) (C := RX7) (T := TX7) (Nf := 11) hM (fun _ h => List.mem_cons_of_mem _ (List.mem_append_right _ h)) tyX7 tyX7_ok nmX7 rfl 6 (by decide) (List.mem_of_getElem? (i := 11) rfl) rfl rfl hin rfl (by decide +kernel) dX7_init_50),
    ok_iconst hM dX7_init_53 rfl,
    ok_F (ok_istore_n hM 1 dX7_init_54 rfl),
    ok_F (ok_iload_n hM 1 dX7_init_55 rfl),
    ok_bipush hM dX7_init_56 rfl,
    ok_icmp_ge hM 78 dX7_init_58 (by decide),
    ok_aload_n hM 0 dX7_init_61 rfl,
    ok_get (C := RX7) (T := TX7) (Nf := 11) hM (fun _ h => List.mem_cons_of_mem _ (List.mem_append_right _ h)) rfl 0 (by decide) (List.mem_of_getElem? (i := 5) rfl) rfl dX7_init_62,
    ok_iconst hM dX7_init_65 rfl,
    ok_iload_n hM 1 dX7_init_66 rfl,
    ok_iadd hM dX7_init_67,
    ok_iload_n hM 1 dX7_init_68 rfl,
    ok_iconst hM dX7_init_69 rfl,
    ok_irem hM dX7_init_70,
    ok_iast hM dX7_init_71,
    ok_F (ok_iinc hM 1 dX7_init_72 rfl),
    ok_goto hM 55 dX7_init_75 (by decide),
    ok_iconst hM dX7_init_78 rfl,
    ok_F (ok_istore_n hM 1 dX7_init_79 rfl),
    ok_F (ok_iload_n hM 1 dX7_init_80 rfl),
    ok_bipush hM dX7_init_81 rfl,
    ok_icmp_ge hM 102 dX7_init_83 (by decide),
    ok_aload_n hM 0 dX7_init_86 rfl,
    ok_get (C := RX7) (T := TX7) (Nf := 11) hM (fun _ h => List.mem_cons_of_mem _ (List.mem_append_right _ h)) rfl 0 (by decide) (List.mem_of_getElem? (i := 5) rfl) rfl dX7_init_87,
    ok_bipush hM dX7_init_90 rfl,
    ok_iload_n hM 1 dX7_init_92 rfl,
    ok_iadd hM dX7_init_93,
    ok_iconst hM dX7_init_94 rfl,
    ok_iast hM dX7_init_95,
    ok_F (ok_iinc hM 1 dX7_init_96 rfl),
    ok_goto hM 80 dX7_init_99 (by decide),
    ok_iconst hM dX7_init_102 rfl,
    ok_F (ok_istore_n hM 1 dX7_init_103 rfl),
    ok_F (ok_iload_n hM 1 dX7_init_104 rfl),
    ok_iconst hM dX7_init_105 rfl,
    ok_icmp_ge hM 126 dX7_init_106 (by decide),
    ok_aload_n hM 0 dX7_init_109 rfl,
    ok_get (C := RX7) (T := TX7) (Nf := 11) hM (fun _ h => List.mem_cons_of_mem _ (List.mem_append_right _ h)) rfl 0 (by decide) (List.mem_of_getElem? (i := 5) rfl) rfl dX7_init_110,
    ok_sipush hM dX7_init_113 rfl,
    ok_iload_n hM 1 dX7_init_116 rfl,
    ok_iadd hM dX7_init_117,
    ok_iconst hM dX7_init_118 rfl,
    ok_iast hM dX7_init_119,
    ok_F (ok_iinc hM 1 dX7_init_120 rfl),
    ok_goto hM 104 dX7_init_123 (by decide),
    ok_F (ok_retV hM hE dX7_init_126),
    trivial⟩
set_option maxRecDepth 100000 in
theorem ctX7_init (l : Launch) : Ct l yX7_init wsX7_init rmX7_init 6 1940 true sX7_init := by
  refine ct_of (own := RX7) (cc := cX7_init) (maxL := 2) (ret := none) (by decide) rfl rfl (by rintro _ _ _ ⟨rfl, rfl, hK⟩; exact Nat.le_of_ble_eq_true rfl) ?_
  intro X av es K hM hE hag hin hnL hsp
  obtain ⟨rfl, rfl, hK⟩ := hsp
  have hf := kX7_init hM (gR_eqv hE) (hin rfl) (gN0_of hag) hnL
  refine g_with (X := X) 104 [0, 1] (fun μ vs es k n => ∃ (i : Nat) (R : Nat → Int32), μ = 4 - i ∧ i ≤ 4 ∧ (∀ j, R j = rI1 8 32 i j) ∧ vs = [.ref 0, .int (nI i)] ∧ es = mdI R ∧ k = 6 ∧ n = 1940) cut_nil (fun μ hc vs es k n hI => ?_) (fun hc1 => ?_)
  · obtain ⟨i, R, rfl, hi, hR, rfl, rfl, rfl, rfl⟩ := hI
    refine g_go hf hc 5 ?_
    refine ⟨fun h => ?_, fun h => ?_⟩
    · have h4 : i = 4 := by
        rw [nI_leI (by decide) (by omega)] at h
        omega
      subst h4
      refine ⟨mdI rIni, ⟨rfl, ⟨rfl, rfl, fun j hj => (hR j).trans ?_⟩, eqL_rfl _⟩, hK⟩
      unfold rI1 rIni
      by_cases c1 : j < 8
      · rw [if_pos c1, if_pos c1]
      · rw [if_neg c1, if_neg c1]
        by_cases c2 : j < 40
        · rw [if_pos c2, if_pos ⟨by omega, by omega⟩]
        · rw [if_neg c2, if_neg (by omega)]
    · have h4 : i < 4 := by
        rw [nI_leI (by decide) (by omega)] at h
        omega
      refine ⟨184 + i, nI_add _ _, by omega, ?_⟩
      refine ⟨4 - (i + 1), by omega, i + 1, upd R (184 + i) (nI 1), rfl, by omega, fun j => ?_, by rw [nI_add], rfl, rfl, rfl⟩
      unfold upd
      by_cases hj : j = 184 + i
      · rw [if_pos hj]
        unfold rI1
        rw [if_neg (by omega), if_neg (by omega), if_pos ⟨by omega, by omega⟩]
      · rw [if_neg hj, hR]
        unfold rI1
        have e1 : (184 ≤ j ∧ j < 184 + i) ↔ (184 ≤ j ∧ j < 184 + (i + 1)) := by omega
        simp only [e1]
  · refine g_with (X := X) 80 [0, 1] (fun μ vs es k n => ∃ (i : Nat) (R : Nat → Int32), μ = 32 - i ∧ i ≤ 32 ∧ (∀ j, R j = rI1 8 i 0 j) ∧ vs = [.ref 0, .int (nI i)] ∧ es = mdI R ∧ k = 6 ∧ n = 1940) hc1 (fun μ hc vs es k n hI => ?_) (fun hc2 => ?_)
    · obtain ⟨i, R, rfl, hi, hR, rfl, rfl, rfl, rfl⟩ := hI
      refine g_go hf hc 5 ?_
      refine ⟨fun h => ?_, fun h => ?_⟩
      · have h4 : i = 32 := by
          rw [nI_leI (by decide) (by omega)] at h
          omega
        subst h4
        exact ⟨4, 0, R, rfl, by omega, hR, rfl, rfl, rfl, rfl⟩
      · have h4 : i < 32 := by
          rw [nI_leI (by decide) (by omega)] at h
          omega
        refine ⟨8 + i, nI_add _ _, by omega, ?_⟩
        refine ⟨32 - (i + 1), by omega, i + 1, upd R (8 + i) (-1), rfl, by omega, fun j => ?_, by rw [nI_add], rfl, rfl, rfl⟩
        unfold upd
        by_cases hj : j = 8 + i
        · rw [if_pos hj]
          unfold rI1
          rw [if_neg (by omega), if_pos ⟨by omega, by omega⟩]
        · rw [if_neg hj, hR]
          unfold rI1
          have e1 : (8 ≤ j ∧ j < 8 + i) ↔ (8 ≤ j ∧ j < 8 + (i + 1)) := by omega
          simp only [e1]
    · refine g_with (X := X) 55 [0, 1] (fun μ vs es k n => ∃ (i : Nat) (R : Nat → Int32), μ = 8 - i ∧ i ≤ 8 ∧ (∀ j, R j = rI1 i 0 0 j) ∧ vs = [.ref 0, .int (nI i)] ∧ es = mdI R ∧ k = 6 ∧ n = 1940) hc2 (fun μ hc vs es k n hI => ?_) (fun hc => ?_)
      · obtain ⟨i, R, rfl, hi, hR, rfl, rfl, rfl, rfl⟩ := hI
        refine g_go hf hc 5 ?_
        refine ⟨fun h => ?_, fun h => ?_⟩
        · have h4 : i = 8 := by
            rw [nI_leI (by decide) (by omega)] at h
            omega
          subst h4
          exact ⟨32, 0, R, rfl, by omega, hR, rfl, rfl, rfl, rfl⟩
        · have h4 : i < 8 := by
            rw [nI_leI (by decide) (by omega)] at h
            omega
          refine ⟨by decide, ?_⟩
          refine ⟨i, ix_0 i, by omega, ?_⟩
          refine ⟨8 - (i + 1), by omega, i + 1, upd R i (nI (i % 4)), rfl, by omega, fun j => ?_, by rw [nI_add], by rw [rem4 (by omega)], rfl, rfl⟩
          unfold upd
          by_cases hj : j = i
          · rw [if_pos hj, hj]
            unfold rI1
            rw [if_pos (by omega)]
          · rw [if_neg hj, hR]
            unfold rI1
            have e1 : j < i ↔ j < i + 1 := by omega
            simp only [e1]
      · refine wr_ok hf hc 5 0 _ _ _ _ _ ?_
        refine ⟨1, 206, rfl, rfl, ?_⟩
        refine ⟨2, 1236, rfl, rfl, ?_⟩
        refine ⟨3, 412, rfl, rfl, ?_⟩
        refine ⟨4, 2, rfl, rfl, ?_⟩
        refine ⟨5, 4, rfl, rfl, ?_⟩
        refine ⟨6, 80, rfl, rfl, ?_⟩
        refine ⟨8, 0, z0I, rfl, by omega, fun j => ?_, rfl, rfl, rfl, rfl⟩
        unfold rI1
        rw [if_neg (by omega), if_neg (by omega), if_neg (by omega)]
        rfl
abbrev cIni : cT := (vIni, 0, fun _ => 0, fun _ => vIni, 0, 0, z0I, vIni, vIni)
theorem vK_ini : vK vIni := ⟨fun w _ => ⟨w % 4, Nat.mod_lt _ (by decide), rfl⟩, fun _ _ => Or.inl rfl, fun _ _ => ⟨1, by decide, rfl⟩, 0, Nat.zero_le _, rfl⟩
theorem inv_ini : inv cIni := ⟨by decide, by decide, by decide, fun _ => Nat.lt_of_lt_of_le Nat.zero_lt_one (by decide), vK_ini, fun _ => vK_ini, vK_ini, vK_ini⟩
theorem rl_ini : rl vIni rIni := by
  refine ⟨fun w hw => if_pos hw, fun p hp => ?_, fun p hp hq => absurd rfl hq, fun q hq => ?_, fun j hj => ?_, fun t ht => ?_, rfl, rfl, fun j hj => ?_⟩
  · show rIni (8 + p) = -1
    unfold rIni
    rw [if_neg (by omega), if_pos (by omega)]
  · refine ⟨0, by decide, ?_, ⟨fun j hj => absurd hj (by omega), fun j _ _ => rfl, fun i j _ hj => absurd hj (by omega)⟩, fun j hj => absurd hj (by omega)⟩
    unfold rIni
    rw [if_neg (by omega), if_neg (by omega), if_neg (by omega)]
  · show rIni (152 + j) = 0
    unfold rIni
    rw [if_neg (by omega), if_neg (by omega), if_neg (by omega)]
    rfl
  · show rIni (184 + t) = nI 1
    unfold rIni
    rw [if_neg (by omega), if_neg (by omega), if_pos ⟨by omega, by omega⟩]
  · show rIni (190 + j) = 0
    unfold rIni
    rw [if_neg (by omega), if_neg (by omega), if_neg (by omega)]
    rfl
theorem mW_ini : mW cIni (nI 0) (mdI rIni) := ⟨rIni, z0I, z0I, z0I, nI 0, nI 0, rfl, rl_ini, fun k hk => absurd hk (by omega), fun q _ hne => absurd rfl hne⟩
end MM18

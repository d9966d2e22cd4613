/-! PartitionedCacheModel: a state recorded. -/
section MM6
def qS (s : Nat) : Nat := if s = 6 then 5 else s
theorem qS_lt {s : Nat} (h : s ≤ 6) : qS s < 6 := by
  unfold qS
  split <;> omega
def pS (P : Nat → Int32) (s : Nat) : Nat → Int32 := fun j => if s = 6 ∧ j < 1030 then P (206 + j) else P j
def rcP (R P : Nat → Int32) (s i : Nat) : Nat → Int32 := fun j => if 206 * qS s ≤ j ∧ j < 206 * qS s + i then R (j - 206 * qS s) else pS P s j
def sX7_record : gS := fun av es K => ∃ s R P S hs tg bf ln at0 nu th r, av = [.ref 0] ∧ s ≤ 6 ∧ es = mdW R P S hs tg bf (nI s) ln at0 nu th r ∧ K none (mdW R (rcP R P s 206) S hs tg bf (nI (qS s + 1)) ln at0 nu th r)
def rmX7_record : Room := { frames := 0, cells := 0, slots := 0, locals := 0 }
def pX7_record (K : gK) : List (Nat × gO) := [(0, oFR 7 (oALoad 0)), (1, oGet 7 4), (4, oConst (nI 6)), (6, oICmp_ne 50), (9, oConst (nI 0)), (10, oIStore 2 1), (11, oFR 7 (oILoad 1)), (12, oConst (nI 1030)), (15, oICmp_ge 40), (18, oALoad 0), (19, oGet 7 1), (22, oILoad 1), (23, oALoad 0), (24, oGet 7 1), (27, oConst (nI 206)), (30, oILoad 1), (31, oAdd), (32, oIALd 0), (33, oIASt), (34, oFR 7 (oIInc 2 1 (nI 1))), (37, oGoto 11), (40, oFR 7 (oALoad 0)), (41, oDup), (42, oGet 7 4), (45, oConst (nI 1)), (46, oSub), (47, oPutI 7 4), (50, oConst (nI 0)), (51, oFR 7 (oIStore 2 1)), (52, oFR 7 (oILoad 1)), (53, oConst (nI 206)), (56, oICmp_ge 86), (59, oALoad 0), (60, oGet 7 1), (63, oConst (nI 206)), (66, oALoad 0), (67, oGet 7 4), (70, oMul), (71, oILoad 1), (72, oAdd), (73, oALoad 0), (74, oGet 7 0), (77, oILoad 1), (78, oIALd 0), (79, oIASt), (80, oFR 7 (oIInc 2 1 (nI 1))), (83, oGoto 52), (86, oFR 7 (oALoad 0)), (87, oDup), (88, oGet 7 4), (91, oConst (nI 1)), (92, oAdd), (93, oPutI 7 4), (96, oFR 7 (oRetV K 0 0))]
set_option maxRecDepth 100000 in
theorem kX7_record {X : gX} {l : Launch} (hM : gM X l cX7_record RX7 wsX7_record rmX7_record) {K : gK} (hE : gR X K 0 0 none) (hnL : X.2.2.2.2.2.2.2.2.2.2.2.2.2.2.2.2 = 2) : okL X (pX7_record K) := by
  obtain ⟨p, l1, e, R, s, m, args, below, meth, c, D, cA, A, ag, ad0, Q, nL⟩ := X
  cases hnL
  refine ⟨ok_FR (ok_aload_n hM 0 dX7_record_0 rfl),
    ok_get (C := RX7) (T := TX7) (Nf := 11) hM (fun _ h => List.mem_cons_of_mem _ (List.mem_append_right _ h)) rfl 4 (by decide) (List.mem_of_getElem? (i := 1) rfl) rfl dX7_record_1,
    ok_bipush hM dX7_record_4 rfl,
    ok_icmp_ne hM 50 dX7_record_6 (by decide),
    ok_iconst hM dX7_record_9 rfl,
    ok_istore_n hM 1 dX7_record_10 rfl,
    ok_FR (ok_iload_n hM 1 dX7_record_11 rfl),
    ok_sipush hM dX7_record_12 rfl,
    ok_icmp_ge hM 40 dX7_record_15 (by decide),
    ok_aload_n hM 0 dX7_record_18 rfl,
    ok_get (C := RX7) (T := TX7) (Nf := 11) hM (fun _ h => List.mem_cons_of_mem _ (List.mem_append_right _ h)) rfl 1 (by decide) (List.mem_of_getElem? (i := 2) rfl) rfl dX7_record_19,
    ok_iload_n hM 1 dX7_record_22 rfl,
    ok_aload_n hM 0 dX7_record_23 rfl,
    ok_get (C := RX7) (T := TX7) (Nf := 11) hM (fun _ h => List.mem_cons_of_mem _ (List.mem_append_right _ h)) rfl 1 (by decide) (List.mem_of_getElem? (i := 2) rfl) rfl dX7_record_24,
    ok_sipush hM dX7_record_27 rfl,
    ok_iload_n hM 1 dX7_record_30 rfl,
    ok_iadd hM dX7_record_31,
    ok_iald hM dX7_record_32,
    ok_iast hM dX7_record_33,
    ok_FR (ok_iinc hM 1 dX7_record_34 rfl),
    ok_goto hM 11 dX7_record_37 (by decide),
    ok_FR (ok_aload_n hM 0 dX7_record_40 rfl),
    ok_dup hM dX7_record_41,
    ok_get (C := RX7) (T := TX7) (Nf := 11) hM (fun _ h => List.mem_cons_of_mem _ (List.mem_append_right _ h)) rfl 4 (by decide) (List.mem_of_getElem? (i := 1) rfl) rfl dX7_record_42,
    ok_iconst hM dX7_record_45 rfl,
    ok_isub hM dX7_record_46,
    ok_putI (C := RX7) (T := TX7) (Nf := 11) hM (fun _ h => List.mem_cons_of_mem _ (List.mem_append_right _ h)) tyX7 tyX7_ok nmX7 rfl 4 (by decide) (List.mem_of_getElem? (i := 1) rfl) rfl rfl (by decide +kernel) dX7_record_47,
    ok_iconst hM dX7_record_50 rfl,
    ok_FR (ok_istore_n hM 1 dX7_record_51 rfl),
    ok_FR (ok_iload_n hM 1 dX7_record_52 rfl),
    ok_sipush hM dX7_record_53 rfl,
    ok_icmp_ge hM 86 dX7_record_56 (by decide),
    ok_aload_n hM 0 dX7_record_59 rfl,
    ok_get (C := RX7) (T := TX7) (Nf := 11) hM (fun _ h => List.mem_cons_of_mem _ (List.mem_append_right _ h)) rfl 1 (by decide) (List.mem_of_getElem? (i := 2) rfl) rfl dX7_record_60,
    ok_sipush hM dX7_record_63 rfl,
    ok_aload_n hM 0 dX7_record_66 rfl,
    ok_get (C := RX7) (T := TX7) (Nf := 11) hM (fun _ h => List.mem_cons_of_mem _ (List.mem_append_right _ h)) rfl 4 (by decide) (List.mem_of_getElem? (i := 1) rfl) rfl dX7_record_67,
    ok_imul hM dX7_record_70,
    ok_iload_n hM 1 dX7_record_71 rfl,
    ok_iadd hM dX7_record_72,
    ok_aload_n hM 0 dX7_record_73 rfl,
    ok_get (C := RX7) (T := TX7) (Nf := 11) hM (fun _ h => List.mem_cons_of_mem _ (List.mem_append_right _ h)) rfl 0 (by decide) (List.mem_of_getElem? (i := 3) rfl) rfl dX7_record_74,
    ok_iload_n hM 1 dX7_record_77 rfl,
    ok_iald hM dX7_record_78,
    ok_iast hM dX7_record_79,
    ok_FR (ok_iinc hM 1 dX7_record_80 rfl),
    ok_goto hM 52 dX7_record_83 (by decide),
    ok_FR (ok_aload_n hM 0 dX7_record_86 rfl),
    ok_dup hM dX7_record_87,
    ok_get (C := RX7) (T := TX7) (Nf := 11) hM (fun _ h => List.mem_cons_of_mem _ (List.mem_append_right _ h)) rfl 4 (by decide) (List.mem_of_getElem? (i := 1) rfl) rfl dX7_record_88,
    ok_iconst hM dX7_record_91 rfl,
    ok_iadd hM dX7_record_92,
    ok_putI (C := RX7) (T := TX7) (Nf := 11) hM (fun _ h => List.mem_cons_of_mem _ (List.mem_append_right _ h)) tyX7 tyX7_ok nmX7 rfl 4 (by decide) (List.mem_of_getElem? (i := 1) rfl) rfl rfl (by decide +kernel) dX7_record_93,
    ok_FR (ok_retV hM hE dX7_record_96),
    trivial⟩
set_option maxRecDepth 100000 in
theorem ctX7_record (l : Launch) : Ct l yX7_record wsX7_record rmX7_record 0 0 false sX7_record := by
  refine ct_of (own := RX7) (cc := cX7_record) (maxL := 2) (ret := none) (by decide) rfl rfl (by rintro _ _ _ ⟨s, R, P, S, hs, tg, bf, ln, at0, nu, th, r, rfl, hs6, rfl, hK⟩; exact Nat.le_of_ble_eq_true rfl) ?_
  intro X av es K hM hE hag hin hnL hsp
  obtain ⟨s, R, P, S, hs, tg, bf, ln, at0, nu, th, r, rfl, hs6, rfl, hK⟩ := hsp
  have hf := kX7_record hM (gR_eqv hE) hnL
  have hq := qS_lt hs6
  refine g_with (X := X) 52 [0, 1] (fun μ vs es k n => ∃ (i : Nat) (P' : Nat → Int32), μ = 206 - i ∧ i ≤ 206 ∧ (∀ j, P' j = rcP R P s i j) ∧ vs = [.ref 0, .int (nI i)] ∧ es = mdW R P' S hs tg bf (nI (qS s)) ln at0 nu th r ∧ k = 0 ∧ n = 0) cut_nil (fun μ hc vs es k n hI => ?_) (fun hc => ?_)
  · obtain ⟨i, P', rfl, hi, hP, rfl, rfl, rfl, rfl⟩ := hI
    refine g_go hf hc 5 ?_
    refine ⟨fun h => ?_, fun h => ?_⟩
    · have h4 : i = 206 := by
        rw [nI_leI (by decide) (by omega)] at h
        omega
      subst h4
      exact ⟨mdW R (rcP R P s 206) S hs tg bf (nI (qS s + 1)) ln at0 nu th r, ⟨by rw [nI_add]; rfl, eqE_rfl _, ⟨rfl, rfl, fun j hj => hP j⟩, eqL_rfl _⟩, hK⟩
    · have h4 : i < 206 := by
        rw [nI_leI (by decide) (by omega)] at h
        omega
      refine ⟨i, rfl, h4, ?_⟩
      refine ⟨206 * qS s + i, by rw [pk_mul, nI_add], by omega, ?_⟩
      refine ⟨206 - (i + 1), by omega, i + 1, upd P' (206 * qS s + i) (R i), rfl, by omega, fun j => ?_, by rw [nI_add], rfl, rfl, rfl⟩
      unfold upd
      by_cases hj : j = 206 * qS s + i
      · subst hj
        rw [if_pos rfl]
        unfold rcP
        rw [if_pos ⟨by omega, by omega⟩, show 206 * qS s + i - 206 * qS s = i by omega]
      · rw [if_neg hj, hP]
        unfold rcP
        have e1 : (206 * qS s ≤ j ∧ j < 206 * qS s + i) ↔ (206 * qS s ≤ j ∧ j < 206 * qS s + (i + 1)) := by omega
        simp only [e1]
  · refine g_with (X := X) 11 [0, 1] (fun μ vs es k n => ∃ (i : Nat) (P' : Nat → Int32), s = 6 ∧ μ = 1030 - i ∧ i ≤ 1030 ∧ (∀ j, P' j = if j < i then P (206 + j) else P j) ∧ vs = [.ref 0, .int (nI i)] ∧ es = mdW R P' S hs tg bf (nI 6) ln at0 nu th r ∧ k = 0 ∧ n = 0) hc (fun μ hc2 vs es k n hI => ?_) (fun hc2 => ?_)
    · obtain ⟨i, P', h6, rfl, hi, hP, rfl, rfl, rfl, rfl⟩ := hI
      refine g_go hf hc2 5 ?_
      refine ⟨fun h => ?_, fun h => ?_⟩
      · have h4 : i = 1030 := by
          rw [nI_leI (by decide) (by omega)] at h
          omega
        subst h4
        have e5 : nI 6 - nI 1 = nI (qS s) := by
          rw [pk_sub (by decide)]
          unfold qS
          rw [if_pos h6]
        refine ⟨206, 0, P', rfl, by omega, fun j => ?_, rfl, by rw [e5]; rfl, rfl, rfl⟩
        unfold rcP pS
        rw [if_neg (by omega), hP]
        simp only [h6, true_and]
      · have h4 : i < 1030 := by
          rw [nI_leI (by decide) (by omega)] at h
          omega
        refine ⟨206 + i, by rw [nI_add], by omega, ?_⟩
        refine ⟨i, rfl, by omega, ?_⟩
        refine ⟨1030 - (i + 1), by omega, i + 1, upd P' i (P' (206 + i)), h6, rfl, by omega, fun j => ?_, by rw [nI_add], rfl, rfl, rfl⟩
        unfold upd
        by_cases hj : j = i
        · rw [if_pos hj, hP, if_neg (by omega), if_pos (by omega), hj]
        · rw [if_neg hj, hP]
          have e1 : j < i ↔ j < i + 1 := by omega
          simp only [e1]
    · refine wr_ok hf hc2 5 0 _ _ _ _ _ ?_
      refine ⟨fun h => ?_, fun h => ?_⟩
      · have h6 : ¬ s = 6 := fun q => h (by rw [q])
        have e5 : qS s = s := if_neg h6
        refine ⟨206, 0, P, rfl, by omega, fun j => ?_, rfl, by rw [e5], rfl, rfl⟩
        unfold rcP pS
        rw [if_neg (by omega), if_neg (fun q => h6 q.1)]
      · have h6 : s = 6 := (nI_eq (by omega) (by decide)).mp h
        subst h6
        exact ⟨1030, 0, P, rfl, rfl, by omega, fun j => by rw [if_neg (by omega)], rfl, rfl, rfl, rfl⟩
end MM6

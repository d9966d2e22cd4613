/-! PartitionedCacheModel: the targets. -/
section MM9
def sX7_findTargets : gS := fun av es K => ∃ L R P S hs tg bf st ln at0 nu th r, av = [.ref 0] ∧ (∀ t, t < 4 → R (184 + t) = nI (L t) ∧ L t ≤ 2) ∧ es = mdW R P S hs tg bf st ln at0 nu th r ∧ K none (mdW R P S hs (nF (tgt L (gaR R))) bf st ln at0 nu th r)
def rmX7_findTargets : Room := { frames := 2, cells := 0, slots := 0, locals := 52 }
def pX7_findTargets (K : gK) : List (Nat × gO) := [(0, oConst (nI 8)), (2, oFR 7 (oIStore 3 1)), (3, oConst (nI 0)), (4, oFR 7 (oIStore 3 2)), (5, oFR 7 (oILoad 2)), (6, oConst (nI 4)), (7, oICmp_ge 41), (10, oALoad 0), (11, oGet 7 5), (14, oILoad 2), (15, oALoad 0), (16, oGet 7 0), (19, oConst (nI 184)), (22, oILoad 2), (23, oAdd), (24, oIALd 0), (25, oIASt), (26, oFR 7 (oILoad 1)), (27, oALoad 0), (28, oGet 7 5), (31, oILoad 2), (32, oIALd 0), (33, oSub), (34, oIStore 3 1), (35, oFR 7 (oIInc 3 2 (nI 1))), (38, oGoto 5), (41, oFR 7 (oILoad 1)), (42, oIf_le 56), (45, oILoad 1), (46, oALoad 0), (47, oILoad 1), (48, oCallV0 0 0 7 1 sX7_giveSome), (51, oSub), (52, oFR 7 (oIStore 3 1)), (53, oGoto 41), (56, oFR 7 (oRetV K 0 0))]
set_option maxRecDepth 100000 in
theorem kX7_findTargets {X : gX} {l : Launch} (hM : gM X l cX7_findTargets RX7 wsX7_findTargets rmX7_findTargets) {K : gK} (hE : gR X K 0 0 none) (hnL : X.2.2.2.2.2.2.2.2.2.2.2.2.2.2.2.2 = 3) : okL X (pX7_findTargets K) := by
  obtain ⟨p, l1, e, R, s, m, args, below, meth, c, D, cA, A, ag, ad0, Q, nL⟩ := X
  cases hnL
  refine ⟨ok_bipush hM dX7_findTargets_0 rfl,
    ok_FR (ok_istore_n hM 1 dX7_findTargets_2 rfl),
    ok_iconst hM dX7_findTargets_3 rfl,
    ok_FR (ok_istore_n hM 2 dX7_findTargets_4 rfl),
    ok_FR (ok_iload_n hM 2 dX7_findTargets_5 rfl),
    ok_iconst hM dX7_findTargets_6 rfl,
    ok_icmp_ge hM 41 dX7_findTargets_7 (by decide),
    ok_aload_n hM 0 dX7_findTargets_10 rfl,
    ok_get (C := RX7) (T := TX7) (Nf := 11) hM (fun _ h => List.mem_cons_of_mem _ (List.mem_append_right _ h)) rfl 5 (by decide) (List.mem_of_getElem? (i := 1) rfl) rfl dX7_findTargets_11,
    ok_iload_n hM 2 dX7_findTargets_14 rfl,
    ok_aload_n hM 0 dX7_findTargets_15 rfl,
    ok_get (C := RX7) (T := TX7) (Nf := 11) hM (fun _ h => List.mem_cons_of_mem _ (List.mem_append_right _ h)) rfl 0 (by decide) (List.mem_of_getElem? (i := 2) rfl) rfl dX7_findTargets_16,
    ok_sipush hM dX7_findTargets_19 rfl,
    ok_iload_n hM 2 dX7_findTargets_22 rfl,
    ok_iadd hM dX7_findTargets_23,
    ok_iald hM dX7_findTargets_24,
    ok_iast hM dX7_findTargets_25,
    ok_FR (ok_iload_n hM 1 dX7_findTargets_26 rfl),
    ok_aload_n hM 0 dX7_findTargets_27 rfl,
    ok_get (C := RX7) (T := TX7) (Nf := 11) hM (fun _ h => List.mem_cons_of_mem _ (List.mem_append_right _ h)) rfl 5 (by decide) (List.mem_of_getElem? (i := 1) rfl) rfl dX7_findTargets_28,
    ok_iload_n hM 2 dX7_findTargets_31 rfl,
    ok_iald hM dX7_findTargets_32,
    ok_isub hM dX7_findTargets_33,
    ok_istore_n hM 1 dX7_findTargets_34 rfl,
    ok_FR (ok_iinc hM 2 dX7_findTargets_35 rfl),
    ok_goto hM 5 dX7_findTargets_38 (by decide),
    ok_FR (ok_iload_n hM 1 dX7_findTargets_41 rfl),
    ok_if_le hM 56 dX7_findTargets_42 (by decide),
    ok_iload_n hM 1 dX7_findTargets_45 rfl,
    ok_aload_n hM 0 dX7_findTargets_46 rfl,
    ok_iload_n hM 1 dX7_findTargets_47 rfl,
    ok_callV0 hM (ctX7_giveSome l) rfl gX7_findTargets_X7_giveSome rfl rfl rfl (by decide +kernel) (by decide) dX7_findTargets_48,
    ok_isub hM dX7_findTargets_51,
    ok_FR (ok_istore_n hM 1 dX7_findTargets_52 rfl),
    ok_goto hM 41 dX7_findTargets_53 (by decide),
    ok_FR (ok_retV hM hE dX7_findTargets_56),
    trivial⟩
set_option maxRecDepth 100000 in
theorem ctX7_findTargets (l : Launch) : Ct l yX7_findTargets wsX7_findTargets rmX7_findTargets 0 0 false sX7_findTargets := by
  refine ct_of (own := RX7) (cc := cX7_findTargets) (maxL := 3) (ret := none) (by decide) rfl rfl (by rintro _ _ _ ⟨L, R, P, S, hs, tg, bf, st, ln, at0, nu, th, r, rfl, hL, rfl, hK⟩; exact Nat.le_of_ble_eq_true rfl) ?_
  intro X av es K hM hE hag hin hnL hsp
  obtain ⟨L, R, P, S, hs, tg, bf, st, ln, at0, nu, th, r, rfl, hL, rfl, hK⟩ := hsp
  have hf := kX7_findTargets hM hE hnL
  generalize hres : tgt L (gaR R) = res at hK
  refine g_with (X := X) 41 [0, 1] (fun μ vs es k n => ∃ (f : Nat) (W : Nat → Nat) (q : Nat), μ = q ∧ q ≤ f ∧ sumN W 4 + q = 8 ∧ res = cmpW (gaR R) f W q ∧ vs = [.ref 0, .int (nI q)] ∧ eqL es (mdW R P S hs (nF W) bf st ln at0 nu th r) ∧ k = 0 ∧ n = 0) cut_nil (fun μ hc vs es k n hI => ?_) (fun hc2 => ?_)
  · obtain ⟨f, W, q, rfl, hqf, hs8, hr, rfl, he, rfl, rfl⟩ := hI
    refine G_eqv he ?_
    refine g_go hf hc 5 ?_
    refine ⟨fun h2 => ?_, fun h2 => ?_⟩
    · have h0 : μ = 0 := by
        rcases Nat.eq_zero_or_pos μ with q | q
        · exact q
        · exact absurd h2 (nI_nle q (by omega))
      subst h0
      rw [cmpW_0] at hr
      rw [hr] at hK
      exact hK
    · have h0 : 0 < μ := by
        rcases Nat.eq_zero_or_pos μ with q | q
        · subst q; exact absurd (by decide) h2
        · exact q
      have hb := gBest_ok (gaR R) W μ
      have hel := gE_le hb h0
      obtain ⟨d, rfl⟩ : ∃ d, f = d + 1 := ⟨f - 1, by omega⟩
      simp only [cmpW, if_pos h0] at hr
      have hb1 := hb.1
      refine ⟨_, μ, W, R, P, S, hs, bf, st, ln, at0, nu, th, r, rfl, rfl, h0, by omega, fun t ht => by have := sum_le (W := W) ht; omega, rfl, ?_⟩
      exact ⟨μ - (gBest (gaR R) W μ).2.1, by omega, d, _, μ - (gBest (gaR R) W μ).2.1, rfl, by omega, grow_sum h0 hs8, hr, by rw [pk_sub hel], eqL_rfl _, rfl, rfl⟩
  · refine g_with (X := X) 5 [0, 1, 2] (fun μ vs es k n => ∃ (i : Nat) (w : Nat → Int32), μ = 4 - i ∧ i ≤ 4 ∧ sumN L i ≤ 2 * i ∧ (∀ j, j < i → w j = nI (L j)) ∧ vs = [.ref 0, .int (nI (8 - sumN L i)), .int (nI i)] ∧ es = mdW R P S hs w bf st ln at0 nu th r ∧ k = 0 ∧ n = 0) hc2 (fun μ hc vs es k n hI => ?_) (fun hc => ?_)
    · obtain ⟨i, w, rfl, hi, hsl, hw, rfl, rfl, rfl, rfl⟩ := hI
      refine g_go hf hc 5 ?_
      refine ⟨fun h => ?_, fun h => ?_⟩
      · have h4 : i = 4 := by
          rw [nI_leI (by decide) (by omega)] at h
          omega
        subst h4
        exact ⟨8 - sumN L 4, 8, L, 8 - sumN L 4, rfl, by omega, by omega, hres.symm, rfl, ⟨rfl, eqE_rfl _, eqE_rfl _, eqE_rfl _, eqE_rfl _, ⟨rfl, rfl, fun j hj => hw j hj⟩, eqL_rfl _⟩, rfl, rfl⟩
      · have h4 : i < 4 := by
          rw [nI_leI (by decide) (by omega)] at h
          omega
        obtain ⟨hl1, hl2⟩ := hL i h4
        refine ⟨184 + i, by rw [nI_add], by omega, ?_⟩
        refine ⟨i, rfl, h4, ?_⟩
        refine ⟨i, rfl, h4, ?_⟩
        refine ⟨4 - (i + 1), by omega, i + 1, upd w i (R (184 + i)), rfl, by omega, by simp only [sumN]; omega, fun j hj => ?_, ?_, rfl, rfl, rfl⟩
        · unfold upd
          by_cases hj2 : j = i
          · subst hj2
            rw [if_pos rfl, hl1]
          · rw [if_neg hj2]
            exact hw j (by omega)
        · have e1 : upd w i (R (184 + i)) i = nI (L i) := by unfold upd; rw [if_pos rfl, hl1]
          rw [e1, nI_add, pk_sub (by omega)]
          simp only [sumN]
          rw [Nat.sub_sub]
    · refine wr_ok hf hc 5 0 _ _ _ _ _ ?_
      exact ⟨4, 0, tg, rfl, by omega, by simp [sumN], fun j hj => absurd hj (by omega), rfl, rfl, rfl, rfl⟩
end MM9

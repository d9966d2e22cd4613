/-! Targets: contracts. -/
section MT
abbrev tgA (o : Nat) (wy : Nat → Int32) : List gE := [.inr (5, [.ref (o + 1)]), .inl (0, 4, .inl wy)]
def nF (W : Nat → Nat) : Nat → Int32 := fun t => nI (W t)
def lowI (W : Nat → Nat) : Nat → Nat
  | 0 => 0
  | n + 1 => if W (n + 1) < W (lowI W n) then n + 1 else lowI W n
theorem lowI_le (W : Nat → Nat) : ∀ n, lowI W n ≤ n
  | 0 => Nat.le_refl _
  | n + 1 => by
    have := lowI_le W n
    unfold lowI
    split <;> omega
theorem lowI_min (W : Nat → Nat) : ∀ n j, j ≤ n → W (lowI W n) ≤ W j
  | 0, j, h => by
    have : j = 0 := by omega
    subst this
    exact Nat.le_refl _
  | n + 1, j, h => by
    unfold lowI
    by_cases hj : j = n + 1
    · subst hj
      split <;> omega
    · have := lowI_min W n j (by omega)
      split <;> omega
def sX5_lowest : gS := fun av es K => ∃ W, av = [.ref 0] ∧ (∀ t, t < 4 → W t ≤ 100) ∧ es = tgA 0 (nF W) ∧ K (some (.int (nI (lowI W 3)))) es
def rmX5_lowest : Room := { frames := 0, cells := 0, slots := 0, locals := 0 }
def pX5_lowest (K : gK) : List (Nat × gO) := [(0, oConst (nI 0)), (1, oF (oIStore 3 1)), (2, oConst (nI 1)), (3, oF (oIStore 3 2)), (4, oF (oILoad 2)), (5, oConst (nI 4)), (6, oICmp_ge 32), (9, oALoad 0), (10, oGet 5 0), (13, oILoad 2), (14, oIALd 0), (15, oALoad 0), (16, oGet 5 0), (19, oILoad 1), (20, oIALd 0), (21, oICmp_ge 26), (24, oILoad 2), (25, oIStore 3 1), (26, oF (oIInc 3 2 (nI 1))), (29, oGoto 4), (32, oF (oILoad 1)), (33, oRet K 0 0)]
set_option maxRecDepth 100000 in
theorem kX5_lowest {X : gX} {l : Launch} (hM : gM X l cX5_lowest RX5 wsX5_lowest rmX5_lowest) {K : gK} (hE : gR X K 0 0 (some .int)) (hnL : X.2.2.2.2.2.2.2.2.2.2.2.2.2.2.2.2 = 3) : okL X (pX5_lowest K) := by
  obtain ⟨p, l1, e, R, s, m, args, below, meth, c, D, cA, A, ag, ad0, Q, nL⟩ := X
  cases hnL
  refine ⟨ok_iconst hM dX5_lowest_0 rfl,
    ok_F (ok_istore_n hM 1 dX5_lowest_1 rfl),
    ok_iconst hM dX5_lowest_2 rfl,
    ok_F (ok_istore_n hM 2 dX5_lowest_3 rfl),
    ok_F (ok_iload_n hM 2 dX5_lowest_4 rfl),
    ok_iconst hM dX5_lowest_5 rfl,
    ok_icmp_ge hM 32 dX5_lowest_6 (by decide),
    ok_aload_n hM 0 dX5_lowest_9 rfl,
    ok_get (C := RX5) (T := TX5) (Nf := 1) hM (fun _ h => List.mem_cons_of_mem _ (List.mem_append_right _ h)) rfl 0 (by decide) (List.mem_of_getElem? (i := 1) rfl) rfl dX5_lowest_10,
    ok_iload_n hM 2 dX5_lowest_13 rfl,
    ok_iald hM dX5_lowest_14,
    ok_aload_n hM 0 dX5_lowest_15 rfl,
    ok_get (C := RX5) (T := TX5) (Nf := 1) hM (fun _ h => List.mem_cons_of_mem _ (List.mem_append_right _ h)) rfl 0 (by decide) (List.mem_of_getElem? (i := 1) rfl) rfl dX5_lowest_16,
    ok_iload_n hM 1 dX5_lowest_19 rfl,
    ok_iald hM dX5_lowest_20,
    ok_icmp_ge hM 26 dX5_lowest_21 (by decide),
    ok_iload_n hM 2 dX5_lowest_24 rfl,
    ok_istore_n hM 1 dX5_lowest_25 rfl,
    ok_F (ok_iinc hM 2 dX5_lowest_26 rfl),
    ok_goto hM 4 dX5_lowest_29 (by decide),
    ok_F (ok_iload_n hM 1 dX5_lowest_32 rfl),
    ok_ret hM hE dX5_lowest_33,
    trivial⟩
set_option maxRecDepth 100000 in
theorem ctX5_lowest (l : Launch) : Ct l yX5_lowest wsX5_lowest rmX5_lowest 0 0 false sX5_lowest := by
  refine ct_of (own := RX5) (cc := cX5_lowest) (maxL := 3) (ret := (some .int)) (by decide) rfl rfl (by rintro _ _ _ ⟨W, rfl, hW, rfl, hK⟩; exact Nat.le_of_ble_eq_true rfl) ?_
  intro X av es K hM hE hag hin hnL hsp
  obtain ⟨W, rfl, hW, rfl, hK⟩ := hsp
  have hf := kX5_lowest hM hE hnL
  refine g_with (X := X) 4 [0, 1, 2] (fun μ vs es k n => ∃ i : Nat, μ = 4 - i ∧ 1 ≤ i ∧ i ≤ 4 ∧ vs = [.ref 0, .int (nI (lowI W (i - 1))), .int (nI i)] ∧ es = tgA 0 (nF W) ∧ k = 0 ∧ n = 0) cut_nil (fun μ hc vs es k n hI => ?_) (fun hc => ?_)
  · obtain ⟨i, rfl, hi1, hi, rfl, rfl, rfl, rfl⟩ := hI
    refine g_go hf hc 5 ?_
    refine ⟨fun h => ?_, fun h => ?_⟩
    · have : i = 4 := by
        rw [nI_leI (by decide) (by omega)] at h
        omega
      subst this
      exact hK
    · rw [nI_leI (by decide) (by omega)] at h
      have hb := lowI_le W (i - 1)
      have h1 := hW i (by omega)
      have h2 := hW (lowI W (i - 1)) (by omega)
      obtain ⟨d, rfl⟩ : ∃ d, i = d + 1 := ⟨i - 1, by omega⟩
      simp only [Nat.add_sub_cancel] at hb h2 ⊢
      refine ⟨d + 1, rfl, by omega, ?_⟩
      refine ⟨lowI W d, rfl, by omega, ?_⟩
      refine ⟨fun h3 => ?_, fun h3 => ?_⟩
      · have h4 : ¬ W (d + 1) < W (lowI W d) := by
          have h5 : nI (W (lowI W d)) ≤ nI (W (d + 1)) := h3
          rw [nI_leI (by omega) (by omega)] at h5
          omega
        exact ⟨4 - (d + 1 + 1), by omega, d + 1 + 1, rfl, by omega, by omega, by rw [nI_add]; simp only [Nat.add_sub_cancel, lowI, if_neg h4], rfl, rfl, rfl⟩
      · have h4 : W (d + 1) < W (lowI W d) := by
          have h5 : ¬ nI (W (lowI W d)) ≤ nI (W (d + 1)) := h3
          rw [nI_leI (by omega) (by omega)] at h5
          omega
        exact ⟨4 - (d + 1 + 1), by omega, d + 1 + 1, rfl, by omega, by omega, by rw [nI_add]; simp only [Nat.add_sub_cancel, lowI, if_pos h4], rfl, rfl, rfl⟩
  · refine wr_ok hf hc 5 0 _ _ _ _ _ ?_
    exact ⟨3, 1, rfl, by omega, by omega, rfl, rfl, rfl, rfl⟩
abbrev gB : Type := Option Nat × Nat × Int32
def gTry (t e : Nat) (g : Int32) (b : gB) : gB := if b.2.2 * nI e < g * nI b.2.1 then (some t, e, g) else b
def gIn (ga : Nat → Int32) (t w r : Nat) : Nat → Nat → Int32 → gB → gB
  | 0, _, _, b => b
  | f + 1, e, g, b => if e ≤ r ∧ w + e ≤ 8 then gIn ga t w r f (e + 1) (g + ga (t * 8 + w + e - 1)) (gTry t e (g + ga (t * 8 + w + e - 1)) b) else b
def gOut (ga : Nat → Int32) (W : Nat → Nat) (r : Nat) : Nat → Nat → gB → gB
  | 0, _, b => b
  | f + 1, t, b => gOut ga W r f (t + 1) (gIn ga t (W t) r 8 1 (nI 0) b)
def gBest (ga : Nat → Int32) (W : Nat → Nat) (r : Nat) : gB := gOut ga W r 4 0 (none, 1, nI 0)
def gTen (W : Nat → Nat) (b : gB) : Nat := match b.1 with
  | none => lowI W 3
  | some p => p
def gNew (W : Nat → Nat) (t e : Nat) : Nat → Nat := fun j => if j = t then W j + e else W j
def gOK (W : Nat → Nat) (r : Nat) (b : gB) : Prop := 1 ≤ b.2.1 ∧ b.2.1 ≤ 8 ∧ (∀ p, b.1 = some p → p < 4 ∧ b.2.1 ≤ r ∧ W p + b.2.1 ≤ 8) ∧ (b.1 = none → b.2.1 = 1)
theorem gTry_ok {W : Nat → Nat} {r t e : Nat} {g : Int32} {b : gB} (h : gOK W r b) (ht : t < 4) (he1 : 1 ≤ e) (he : e ≤ r) (hw : W t + e ≤ 8) : gOK W r (gTry t e g b) := by
  unfold gTry
  split
  · exact ⟨he1, (by show e ≤ 8; omega), fun p hp => (by cases hp; exact ⟨ht, he, hw⟩), fun hp => (by cases hp)⟩
  · exact h
theorem gIn_ok {ga : Nat → Int32} {W : Nat → Nat} {r t : Nat} (ht : t < 4) : ∀ (f e : Nat) (g : Int32) (b : gB), 1 ≤ e → gOK W r b → gOK W r (gIn ga t (W t) r f e g b)
  | 0, _, _, _, _, h => h
  | f + 1, e, g, b, he, h => by
    unfold gIn
    split
    · rename_i hc
      exact gIn_ok ht f (e + 1) _ _ (by omega) (gTry_ok h ht he hc.1 hc.2)
    · exact h
theorem gOut_ok {ga : Nat → Int32} {W : Nat → Nat} {r : Nat} : ∀ (f t : Nat) (b : gB), t + f ≤ 4 → gOK W r b → gOK W r (gOut ga W r f t b)
  | 0, _, _, _, h => h
  | f + 1, t, b, ht, h => by
    unfold gOut
    exact gOut_ok f (t + 1) _ (by omega) (gIn_ok (by omega) 8 1 _ b (Nat.le_refl _) h)
theorem gBest_ok (ga : Nat → Int32) (W : Nat → Nat) (r : Nat) : gOK W r (gBest ga W r) := gOut_ok 4 0 _ (by omega) ⟨Nat.le_refl _, by decide, fun p hp => (by cases hp), fun _ => rfl⟩
theorem gNew_fun (W : Nat → Nat) (t e : Nat) : upd (nF W) t (nI (W t) + nI e) = nF (gNew W t e) := by
  funext j
  unfold upd nF gNew
  by_cases h : j = t
  · subst h
    rw [if_pos rfl, if_pos rfl, nI_add]
  · rw [if_neg h, if_neg h]
def sX5_growOne : gS := fun av es K => ∃ x r W ad ga, av = [.ref 0, .ref 2, .int x] ∧ x = nI r ∧ r ≤ 8 ∧ (∀ t, t < 4 → W t ≤ 8) ∧ es = tgA 0 (nF W) ++ moA 2 ad ga ∧ K (some (.int (nI (gBest ga W r).2.1))) (tgA 0 (nF (gNew W (gTen W (gBest ga W r)) (gBest ga W r).2.1)) ++ moA 2 ad ga)
def rmX5_growOne : Room := { frames := 1, cells := 0, slots := 0, locals := 22 }
def pX5_growOne (K : gK) : List (Nat × gO) := [(0, oConst (-1)), (1, oF (oIStore 9 3)), (2, oConst (nI 1)), (3, oF (oIStore 9 4)), (5, oConst (nI 0)), (6, oF (oIStore 9 5)), (8, oConst (nI 0)), (9, oF (oIStore 9 6)), (11, oF (oILoad 6)), (13, oConst (nI 4)), (14, oICmp_ge 108), (17, oConst (nI 0)), (18, oIStore 9 7), (20, oConst (nI 1)), (21, oF (oIStore 9 8)), (23, oF (oILoad 8)), (25, oILoad 2), (26, oICmp_gt 102), (29, oALoad 0), (30, oGet 5 0), (33, oILoad 6), (35, oIALd 0), (36, oILoad 8), (38, oAdd), (39, oConst (nI 8)), (41, oICmp_gt 102), (44, oILoad 7), (46, oALoad 1), (47, oGet 2 1), (50, oILoad 6), (52, oConst (nI 8)), (54, oMul), (55, oALoad 0), (56, oGet 5 0), (59, oILoad 6), (61, oIALd 0), (62, oAdd), (63, oILoad 8), (65, oAdd), (66, oConst (nI 1)), (67, oSub), (68, oIALd 0), (69, oAdd), (70, oIStore 9 7), (72, oF (oILoad 7)), (74, oILoad 4), (76, oMul), (77, oILoad 5), (79, oILoad 8), (81, oMul), (82, oICmp_le 96), (85, oILoad 6), (87, oIStore 9 3), (88, oF (oILoad 8)), (90, oIStore 9 4), (92, oF (oILoad 7)), (94, oIStore 9 5), (96, oF (oIInc 9 8 (nI 1))), (99, oGoto 23), (102, oF (oIInc 9 6 (nI 1))), (105, oGoto 11), (108, oF (oALoad 0)), (109, oGet 5 0), (112, oILoad 3), (113, oConst (-1)), (114, oICmp_ne 124), (117, oALoad 0), (118, oCallV 0 0 5 0 [0,1] sX5_lowest), (121, oGoto 125), (124, oF (oILoad 3)), (125, oDup2), (126, oIALd 0), (127, oILoad 4), (129, oAdd), (130, oIASt), (131, oF (oILoad 4)), (133, oRet K 0 0)]
set_option maxRecDepth 100000 in
theorem kX5_growOne {X : gX} {l : Launch} (hM : gM X l cX5_growOne RX5 wsX5_growOne rmX5_growOne) {K : gK} (hE : gR X K 0 0 (some .int)) (hnL : X.2.2.2.2.2.2.2.2.2.2.2.2.2.2.2.2 = 9) : okL X (pX5_growOne K) := by
  obtain ⟨p, l1, e, R, s, m, args, below, meth, c, D, cA, A, ag, ad0, Q, nL⟩ := X
  cases hnL
  refine ⟨ok_iconst hM dX5_growOne_0 rfl,
    ok_F (ok_istore_n hM 3 dX5_growOne_1 rfl),
    ok_iconst hM dX5_growOne_2 rfl,
    ok_F (ok_istore hM 4 dX5_growOne_3),
    ok_iconst hM dX5_growOne_5 rfl,
    ok_F (ok_istore hM 5 dX5_growOne_6),
    ok_iconst hM dX5_growOne_8 rfl,
    ok_F (ok_istore hM 6 dX5_growOne_9),
    ok_F (ok_iload hM 6 dX5_growOne_11),
    ok_iconst hM dX5_growOne_13 rfl,
    ok_icmp_ge hM 108 dX5_growOne_14 (by decide),
    ok_iconst hM dX5_growOne_17 rfl,
    ok_istore hM 7 dX5_growOne_18,
    ok_iconst hM dX5_growOne_20 rfl,
    ok_F (ok_istore hM 8 dX5_growOne_21),
    ok_F (ok_iload hM 8 dX5_growOne_23),
    ok_iload_n hM 2 dX5_growOne_25 rfl,
    ok_icmp_gt hM 102 dX5_growOne_26 (by decide),
    ok_aload_n hM 0 dX5_growOne_29 rfl,
    ok_get (C := RX5) (T := TX5) (Nf := 1) hM (fun _ h => List.mem_cons_of_mem _ (List.mem_append_left _ (List.mem_append_right _ h))) rfl 0 (by decide) (List.mem_of_getElem? (i := 1) rfl) rfl dX5_growOne_30,
    ok_iload hM 6 dX5_growOne_33,
    ok_iald hM dX5_growOne_35,
    ok_iload hM 8 dX5_growOne_36,
    ok_iadd hM dX5_growOne_38,
    ok_bipush hM dX5_growOne_39 rfl,
    ok_icmp_gt hM 102 dX5_growOne_41 (by decide),
    ok_iload hM 7 dX5_growOne_44,
    ok_aload_n hM 1 dX5_growOne_46 rfl,
    ok_get (C := RX2) (T := TX2) (Nf := 2) hM (fun _ h => List.mem_cons_of_mem _ (List.mem_append_right _ h)) rfl 1 (by decide) (List.mem_of_getElem? (i := 2) rfl) rfl dX5_growOne_47,
    ok_iload hM 6 dX5_growOne_50,
    ok_bipush hM dX5_growOne_52 rfl,
    ok_imul hM dX5_growOne_54,
    ok_aload_n hM 0 dX5_growOne_55 rfl,
    ok_get (C := RX5) (T := TX5) (Nf := 1) hM (fun _ h => List.mem_cons_of_mem _ (List.mem_append_left _ (List.mem_append_right _ h))) rfl 0 (by decide) (List.mem_of_getElem? (i := 1) rfl) rfl dX5_growOne_56,
    ok_iload hM 6 dX5_growOne_59,
    ok_iald hM dX5_growOne_61,
    ok_iadd hM dX5_growOne_62,
    ok_iload hM 8 dX5_growOne_63,
    ok_iadd hM dX5_growOne_65,
    ok_iconst hM dX5_growOne_66 rfl,
    ok_isub hM dX5_growOne_67,
    ok_iald hM dX5_growOne_68,
    ok_iadd hM dX5_growOne_69,
    ok_istore hM 7 dX5_growOne_70,
    ok_F (ok_iload hM 7 dX5_growOne_72),
    ok_iload hM 4 dX5_growOne_74,
    ok_imul hM dX5_growOne_76,
    ok_iload hM 5 dX5_growOne_77,
    ok_iload hM 8 dX5_growOne_79,
    ok_imul hM dX5_growOne_81,
    ok_icmp_le hM 96 dX5_growOne_82 (by decide),
    ok_iload hM 6 dX5_growOne_85,
    ok_istore_n hM 3 dX5_growOne_87 rfl,
    ok_F (ok_iload hM 8 dX5_growOne_88),
    ok_istore hM 4 dX5_growOne_90,
    ok_F (ok_iload hM 7 dX5_growOne_92),
    ok_istore hM 5 dX5_growOne_94,
    ok_F (ok_iinc hM 8 dX5_growOne_96 rfl),
    ok_goto hM 23 dX5_growOne_99 (by decide),
    ok_F (ok_iinc hM 6 dX5_growOne_102 rfl),
    ok_goto hM 11 dX5_growOne_105 (by decide),
    ok_F (ok_aload_n hM 0 dX5_growOne_108 rfl),
    ok_get (C := RX5) (T := TX5) (Nf := 1) hM (fun _ h => List.mem_cons_of_mem _ (List.mem_append_left _ (List.mem_append_right _ h))) rfl 0 (by decide) (List.mem_of_getElem? (i := 1) rfl) rfl dX5_growOne_109,
    ok_iload_n hM 3 dX5_growOne_112 rfl,
    ok_iconst hM dX5_growOne_113 rfl,
    ok_icmp_ne hM 124 dX5_growOne_114 (by decide),
    ok_aload_n hM 0 dX5_growOne_117 rfl,
    ok_callV hM [0,1] (ctX5_lowest l) rfl rfl gX5_growOne_X5_lowest rfl rfl rfl (by decide +kernel) (by decide) dX5_growOne_118,
    ok_goto hM 125 dX5_growOne_121 (by decide),
    ok_F (ok_iload_n hM 3 dX5_growOne_124 rfl),
    ok_dup2 hM dX5_growOne_125,
    ok_iald hM dX5_growOne_126,
    ok_iload hM 4 dX5_growOne_127,
    ok_iadd hM dX5_growOne_129,
    ok_iast hM dX5_growOne_130,
    ok_F (ok_iload hM 4 dX5_growOne_131),
    ok_ret hM hE dX5_growOne_133,
    trivial⟩
set_option maxRecDepth 100000 in
theorem ctX5_growOne (l : Launch) : Ct l yX5_growOne wsX5_growOne rmX5_growOne 0 0 false sX5_growOne := by
  refine ct_of (own := RX5) (cc := cX5_growOne) (maxL := 9) (ret := (some .int)) (by decide) rfl rfl (by rintro _ _ _ ⟨x, r, W, ad, ga, rfl, rfl, hr, hW, rfl, hK⟩; exact Nat.le_of_ble_eq_true rfl) ?_
  intro X av es K hM hE hag hin hnL hsp
  obtain ⟨x, r, W, ad, ga, rfl, rfl, hr, hW, rfl, hK⟩ := hsp
  have hf := kX5_growOne hM hE hnL
  have hbo := gBest_ok ga W r
  generalize hres : gBest ga W r = res at hK hbo
  refine g_with (X := X) 11 [0, 1, 2, 3, 4, 5, 6] (fun μ vs es k n => ∃ (t : Nat) (b : gB), μ = 4 - t ∧ t ≤ 4 ∧ res = gOut ga W r (4 - t) t b ∧ gOK W r b ∧ vs = [.ref 0, .ref 2, .int (nI r), .int (oI b.1), .int (nI b.2.1), .int b.2.2, .int (nI t)] ∧ es = tgA 0 (nF W) ++ moA 2 ad ga ∧ k = 0 ∧ n = 0) cut_nil (fun μ hc vs es k n hI => ?_) (fun hc => ?_)
  · obtain ⟨t, b, rfl, ht, hr1, hb, rfl, rfl, rfl, rfl⟩ := hI
    refine g_with (X := X) 23 [0, 1, 2, 3, 4, 5, 6, 7, 8] (fun μ vs es k n => ∃ (e : Nat) (g : Int32) (b : gB), μ = 9 - e ∧ 1 ≤ e ∧ e ≤ 9 ∧ t < 4 ∧ res = gOut ga W r (4 - (t + 1)) (t + 1) (gIn ga t (W t) r (9 - e) e g b) ∧ gOK W r b ∧ vs = [.ref 0, .ref 2, .int (nI r), .int (oI b.1), .int (nI b.2.1), .int b.2.2, .int (nI t), .int g, .int (nI e)] ∧ es = tgA 0 (nF W) ++ moA 2 ad ga ∧ k = 0 ∧ n = 0) hc (fun μ hc' vs es k n hI => ?_) (fun hc' => ?_)
    · obtain ⟨e, g, b, rfl, he1, he9, ht4, hr2, hb, rfl, rfl, rfl, rfl⟩ := hI
      have hwt := hW t ht4
      refine g_go hf hc' 5 ?_
      have stop : ∀ (hno : ¬ (e ≤ r ∧ W t + e ≤ 8)), res = gOut ga W r (4 - (t + 1)) (t + 1) b := fun hno => by
        rw [hr2]
        cases h9 : 9 - e with
        | zero => rfl
        | succ d => simp only [gIn, if_neg hno]
      refine ⟨fun h => ?_, fun h => ?_⟩
      · rw [nI_ltI (by omega) (by omega)] at h
        exact ⟨4 - (t + 1), by omega, t + 1, b, rfl, by omega, stop (by omega), hb, by rw [nI_add], rfl, rfl, rfl⟩
      · rw [nI_ltI (by omega) (by omega)] at h
        refine ⟨t, rfl, ht4, ?_⟩
        refine ⟨fun h2 => ?_, fun h2 => ?_⟩
        · have h3 : nI 8 < nI (W t) + nI e := h2
          rw [nI_add, nI_ltI (by decide) (by omega)] at h3
          exact ⟨4 - (t + 1), by omega, t + 1, b, rfl, by omega, stop (by omega), hb, by rw [nI_add], rfl, rfl, rfl⟩
        · have h3 : ¬ nI 8 < nI (W t) + nI e := h2
          rw [nI_add, nI_ltI (by decide) (by omega)] at h3
          obtain ⟨d, hd⟩ : ∃ d, 9 - e = d + 1 := ⟨9 - e - 1, by omega⟩
          have hd9 : 9 - (e + 1) = d := by omega
          rw [hd] at hr2
          simp only [gIn, if_pos (show e ≤ r ∧ W t + e ≤ 8 by omega)] at hr2
          have hok := gTry_ok (g := g + ga (t * 8 + W t + e - 1)) hb ht4 he1 (by omega) (by omega)
          refine ⟨t, rfl, ht4, ?_⟩
          refine ⟨t * 8 + W t + e - 1, ?_, by omega, ?_⟩
          · show nI t * nI 8 + nI (W t) + nI e - nI 1 = _
            rw [pk_mul, nI_add, nI_add, pk_sub (by omega)]
          · refine ⟨fun h4 => ?_, fun h4 => ?_⟩
            · refine ⟨9 - (e + 1), by omega, e + 1, g + ga (t * 8 + W t + e - 1), b, rfl, by omega, by omega, ht4, ?_, hb, by rw [nI_add], rfl, rfl, rfl⟩
              rw [hr2, hd9]
              unfold gTry
              rw [if_neg (by first | exact Int32.not_lt.mpr h4 | exact h4)]
            · refine ⟨9 - (e + 1), by omega, e + 1, g + ga (t * 8 + W t + e - 1), (some t, e, g + ga (t * 8 + W t + e - 1)), rfl, by omega, by omega, ht4, ?_, ?_, by rw [nI_add]; rfl, rfl, rfl, rfl⟩
              · rw [hr2, hd9]
                unfold gTry
                rw [if_pos (by first | exact Int32.not_le.mp h4 | exact h4)]
              · unfold gTry at hok
                rw [if_pos (by first | exact Int32.not_le.mp h4 | exact h4)] at hok
                exact hok
    · refine g_go hf hc' 5 ?_
      refine ⟨fun h => ?_, fun h => ?_⟩
      · have h4 : t = 4 := by
          rw [nI_leI (by decide) (by omega)] at h
          omega
        subst h4
        have hrb : res = b := hr1
        subst hrb
        have hne : oI res.1 = -1 ↔ res.1 = none := oI_ne (fun p hp => by have := (hb.2.2.1 p hp).1; omega)
        have h8 := hb.2.1
        refine ⟨fun h2 => ?_, fun h2 => ?_⟩
        · have h2 : ¬ res.1 = none := fun q => h2 (hne.mpr q)
          obtain ⟨p, hp⟩ : ∃ p, res.1 = some p := by
            cases hq : res.1 with
            | none => exact absurd hq h2
            | some p => exact ⟨p, rfl⟩
          have hp4 := (hb.2.2.1 p hp).1
          have e1 : gTen W res = p := by unfold gTen; rw [hp]
          rw [e1, ← gNew_fun] at hK
          rw [hp]
          refine ⟨p, rfl, hp4, ?_⟩
          refine ⟨p, rfl, hp4, ?_⟩
          exact hK
        · have h2 : res.1 = none := hne.mp h2
          have e1 : gTen W res = lowI W 3 := by unfold gTen; rw [h2]
          rw [e1, ← gNew_fun] at hK
          have hl := lowI_le W 3
          refine ⟨W, rfl, fun t ht => by have := hW t ht; omega, rfl, ?_⟩
          refine ⟨lowI W 3, rfl, by omega, ?_⟩
          refine ⟨lowI W 3, rfl, by omega, ?_⟩
          exact hK
      · have ht4 : t < 4 := by
          rw [nI_leI (by decide) (by omega)] at h
          omega
        obtain ⟨d, hd⟩ : ∃ d, 4 - t = d + 1 := ⟨4 - t - 1, by omega⟩
        have hd9 : 4 - (t + 1) = d := by omega
        rw [hd] at hr1
        refine ⟨8, 1, nI 0, b, rfl, by omega, by omega, ht4, ?_, hb, rfl, rfl, rfl, rfl⟩
        rw [hr1, hd9]
        rfl
  · refine wr_ok hf hc 5 0 _ _ _ _ _ ?_
    exact ⟨4, 0, (none, 1, nI 0), rfl, by omega, hres.symm, ⟨Nat.le_refl _, by decide, fun p hp => (by cases hp), fun _ => rfl⟩, rfl, rfl, rfl, rfl⟩
-- compute
abbrev gV : Type := (Nat → Int32) × (Nat → Int32) × (Nat → Int32) × (Nat → Int32) × (Nat → Int32) × (Nat → Int32) × (Nat → Int32) × Int32 × Int32
abbrev vOw (v : gV) : Nat → Int32 := v.1
abbrev vHd (v : gV) : Nat → Int32 := v.2.1
abbrev vSt (v : gV) : Nat → Int32 := v.2.2.1
abbrev vAd (v : gV) : Nat → Int32 := v.2.2.2.1
abbrev vGa (v : gV) : Nat → Int32 := v.2.2.2.2.1
abbrev vLe (v : gV) : Nat → Int32 := v.2.2.2.2.2.1
abbrev vCo (v : gV) : Nat → Int32 := v.2.2.2.2.2.2.1
abbrev vEp (v : gV) : Int32 := v.2.2.2.2.2.2.2.1
abbrev vAc (v : gV) : Int32 := v.2.2.2.2.2.2.2.2
abbrev stA (o : Nat) (ow hd st ad ga le co : Nat → Int32) (ep ac : Int32) : List gE := [.inr (4, [.ref (o + 1), .ref (o + 5), .ref (o + 8), .ref (o + 9), .int ep, .int ac]), .inr (3, [.ref (o + 2), .ref (o + 3), .ref (o + 4)]), .inl (0, 8, .inl ow), .inl (0, 32, .inl hd), .inl (0, 32, .inl st), .inr (2, [.ref (o + 6), .ref (o + 7)]), .inl (0, 64, .inl ad), .inl (0, 32, .inl ga), .inl (0, 4, .inl le), .inl (0, 16, .inl co)]
abbrev stV (o : Nat) (v : gV) : List gE := stA o (vOw v) (vHd v) (vSt v) (vAd v) (vGa v) (vLe v) (vCo v) (vEp v) (vAc v)
def cmpW (ga : Nat → Int32) : Nat → (Nat → Nat) → Nat → Nat → Nat
  | 0, W, _ => W
  | f + 1, W, r => if 0 < r then cmpW ga f (gNew W (gTen W (gBest ga W r)) (gBest ga W r).2.1) (r - (gBest ga W r).2.1) else W
def tgt (L : Nat → Nat) (ga : Nat → Int32) : Nat → Nat := cmpW ga 8 L (8 - sumN L 4)
theorem sum_new {W : Nat → Nat} {t e : Nat} (h : t < 4) : sumN (gNew W t e) 4 = sumN W 4 + e := by
  have : t = 0 ∨ t = 1 ∨ t = 2 ∨ t = 3 := by omega
  rcases this with rfl | rfl | rfl | rfl <;> simp [sumN, gNew] <;> omega
theorem sum_le {W : Nat → Nat} {t : Nat} (h : t < 4) : W t ≤ sumN W 4 := by
  have : t = 0 ∨ t = 1 ∨ t = 2 ∨ t = 3 := by omega
  rcases this with rfl | rfl | rfl | rfl <;> simp [sumN] <;> omega
theorem gTen_lt {W : Nat → Nat} {r : Nat} {b : gB} (h : gOK W r b) : gTen W b < 4 := by
  unfold gTen
  cases hb : b.1 with
  | none => have := lowI_le W 3; simp only; omega
  | some p => exact (h.2.2.1 p hb).1
theorem gE_le {W : Nat → Nat} {r : Nat} {b : gB} (h : gOK W r b) (hr : 0 < r) : b.2.1 ≤ r := by
  cases hb : b.1 with
  | none => rw [h.2.2.2 hb]; exact hr
  | some p => exact (h.2.2.1 p hb).2.1
theorem grow_sum {ga : Nat → Int32} {W : Nat → Nat} {r : Nat} (hr : 0 < r) (h : sumN W 4 + r = 8) : sumN (gNew W (gTen W (gBest ga W r)) (gBest ga W r).2.1) 4 + (r - (gBest ga W r).2.1) = 8 := by
  have hb := gBest_ok ga W r
  rw [sum_new (gTen_lt hb)]
  have := gE_le hb hr
  omega
theorem cmpW_sum {ga : Nat → Int32} : ∀ (f : Nat) (W : Nat → Nat) (r : Nat), sumN W 4 + r = 8 → r ≤ f → sumN (cmpW ga f W r) 4 = 8
  | 0, W, r, h, hf => by
    unfold cmpW
    omega
  | f + 1, W, r, h, hf => by
    unfold cmpW
    split
    · rename_i hr
      have h1 := (gBest_ok ga W r).1
      exact cmpW_sum f _ _ (grow_sum hr h) (by omega)
    · omega
theorem tgt_sum {L : Nat → Nat} {ga : Nat → Int32} (h : sumN L 4 ≤ 8) : sumN (tgt L ga) 4 = 8 := cmpW_sum 8 L _ (by omega) (by omega)
theorem cmpW_0 {ga : Nat → Int32} : ∀ (f : Nat) (W : Nat → Nat), cmpW ga f W 0 = W
  | 0, _ => rfl
  | f + 1, W => by unfold cmpW; rw [if_neg (by omega)]
def sX5_compute : gS := fun av es K => ∃ wy v L, av = [.ref 0, .ref 2] ∧ (∀ t, t < 4 → vLe v t = nI (L t) ∧ L t ≤ 2) ∧ es = tgA 0 wy ++ stV 2 v ∧ K none (tgA 0 (nF (tgt L (vGa v))) ++ stV 2 v)
def rmX5_compute : Room := { frames := 2, cells := 0, slots := 0, locals := 50 }
def pX5_compute (K : gK) : List (Nat × gO) := [(0, oConst (nI 8)), (2, oF (oIStore 4 2)), (3, oConst (nI 0)), (4, oF (oIStore 4 3)), (5, oF (oILoad 3)), (6, oConst (nI 4)), (7, oICmp_ge 37), (10, oALoad 0), (11, oGet 5 0), (14, oILoad 3), (15, oALoad 1), (16, oGet 4 2), (19, oILoad 3), (20, oIALd 0), (21, oIASt), (22, oF (oILoad 2)), (23, oALoad 0), (24, oGet 5 0), (27, oILoad 3), (28, oIALd 0), (29, oSub), (30, oIStore 4 2), (31, oF (oIInc 4 3 (nI 1))), (34, oGoto 5), (37, oConst (nI 0)), (38, oF (oIStore 4 3)), (39, oF (oILoad 3)), (40, oConst (nI 8)), (42, oICmp_ge 67), (45, oILoad 2), (46, oIf_le 67), (49, oILoad 2), (50, oALoad 0), (51, oALoad 1), (52, oGet 4 1), (55, oILoad 2), (56, oCallV 0 0 5 2 [0,1,7,8,9] sX5_growOne), (59, oSub), (60, oF (oIStore 4 2)), (61, oF (oIInc 4 3 (nI 1))), (64, oGoto 39), (67, oF (oRetV K 0 0))]
set_option maxRecDepth 100000 in
theorem kX5_compute {X : gX} {l : Launch} (hM : gM X l cX5_compute RX5 wsX5_compute rmX5_compute) {K : gK} (hE : gR X K 0 0 none) (hnL : X.2.2.2.2.2.2.2.2.2.2.2.2.2.2.2.2 = 4) : okL X (pX5_compute K) := by
  obtain ⟨p, l1, e, R, s, m, args, below, meth, c, D, cA, A, ag, ad0, Q, nL⟩ := X
  cases hnL
  refine ⟨ok_bipush hM dX5_compute_0 rfl,
    ok_F (ok_istore_n hM 2 dX5_compute_2 rfl),
    ok_iconst hM dX5_compute_3 rfl,
    ok_F (ok_istore_n hM 3 dX5_compute_4 rfl),
    ok_F (ok_iload_n hM 3 dX5_compute_5 rfl),
    ok_iconst hM dX5_compute_6 rfl,
    ok_icmp_ge hM 37 dX5_compute_7 (by decide),
    ok_aload_n hM 0 dX5_compute_10 rfl,
    ok_get (C := RX5) (T := TX5) (Nf := 1) hM (fun _ h => List.mem_cons_of_mem _ (List.mem_append_left _ (List.mem_append_left _ (List.mem_append_right _ h)))) rfl 0 (by decide) (List.mem_of_getElem? (i := 1) rfl) rfl dX5_compute_11,
    ok_iload_n hM 3 dX5_compute_14 rfl,
    ok_aload_n hM 1 dX5_compute_15 rfl,
    ok_get (C := RX4) (T := TX4) (Nf := 6) hM (fun _ h => List.mem_cons_of_mem _ (List.mem_append_left _ (List.mem_append_right _ h))) rfl 2 (by decide) (List.mem_of_getElem? (i := 2) rfl) rfl dX5_compute_16,
    ok_iload_n hM 3 dX5_compute_19 rfl,
    ok_iald hM dX5_compute_20,
    ok_iast hM dX5_compute_21,
    ok_F (ok_iload_n hM 2 dX5_compute_22 rfl),
    ok_aload_n hM 0 dX5_compute_23 rfl,
    ok_get (C := RX5) (T := TX5) (Nf := 1) hM (fun _ h => List.mem_cons_of_mem _ (List.mem_append_left _ (List.mem_append_left _ (List.mem_append_right _ h)))) rfl 0 (by decide) (List.mem_of_getElem? (i := 1) rfl) rfl dX5_compute_24,
    ok_iload_n hM 3 dX5_compute_27 rfl,
    ok_iald hM dX5_compute_28,
    ok_isub hM dX5_compute_29,
    ok_istore_n hM 2 dX5_compute_30 rfl,
    ok_F (ok_iinc hM 3 dX5_compute_31 rfl),
    ok_goto hM 5 dX5_compute_34 (by decide),
    ok_iconst hM dX5_compute_37 rfl,
    ok_F (ok_istore_n hM 3 dX5_compute_38 rfl),
    ok_F (ok_iload_n hM 3 dX5_compute_39 rfl),
    ok_bipush hM dX5_compute_40 rfl,
    ok_icmp_ge hM 67 dX5_compute_42 (by decide),
    ok_iload_n hM 2 dX5_compute_45 rfl,
    ok_if_le hM 67 dX5_compute_46 (by decide),
    ok_iload_n hM 2 dX5_compute_49 rfl,
    ok_aload_n hM 0 dX5_compute_50 rfl,
    ok_aload_n hM 1 dX5_compute_51 rfl,
    ok_get (C := RX4) (T := TX4) (Nf := 6) hM (fun _ h => List.mem_cons_of_mem _ (List.mem_append_left _ (List.mem_append_right _ h))) rfl 1 (by decide) (List.mem_of_getElem? (i := 3) rfl) rfl dX5_compute_52,
    ok_iload_n hM 2 dX5_compute_55 rfl,
    ok_callV hM [0,1,7,8,9] (ctX5_growOne l) rfl rfl gX5_compute_X5_growOne rfl rfl rfl (by decide +kernel) (by decide) dX5_compute_56,
    ok_isub hM dX5_compute_59,
    ok_F (ok_istore_n hM 2 dX5_compute_60 rfl),
    ok_F (ok_iinc hM 3 dX5_compute_61 rfl),
    ok_goto hM 39 dX5_compute_64 (by decide),
    ok_F (ok_retV hM hE dX5_compute_67),
    trivial⟩
set_option maxRecDepth 100000 in
theorem ctX5_compute (l : Launch) : Ct l yX5_compute wsX5_compute rmX5_compute 0 0 false sX5_compute := by
  refine ct_of (own := RX5) (cc := cX5_compute) (maxL := 4) (ret := none) (by decide) rfl rfl (by rintro _ _ _ ⟨wy, v, L, rfl, hL, rfl, hK⟩; exact Nat.le_of_ble_eq_true rfl) ?_
  intro X av es K hM hE hag hin hnL hsp
  obtain ⟨wy, v, L, rfl, hL, rfl, hK⟩ := hsp
  have hf := kX5_compute hM hE hnL
  generalize hres : tgt L (vGa v) = res at hK
  refine g_with (X := X) 39 [0, 1, 2, 3] (fun μ vs es k n => ∃ (i : Nat) (W : Nat → Nat) (r : Nat), μ = 8 - i ∧ i ≤ 8 ∧ sumN W 4 + r = 8 ∧ res = cmpW (vGa v) (8 - i) W r ∧ vs = [.ref 0, .ref 2, .int (nI r), .int (nI i)] ∧ eqL es (tgA 0 (nF W) ++ stV 2 v) ∧ k = 0 ∧ n = 0) cut_nil (fun μ hc vs es k n hI => ?_) (fun hc2 => ?_)
  · obtain ⟨i, W, r, rfl, hi, hs, hr, rfl, he, rfl, rfl⟩ := hI
    refine G_eqv he ?_
    refine g_go hf hc 5 ?_
    refine ⟨fun h => ?_, fun h => ?_⟩
    · have : i = 8 := by
        rw [nI_leI (by decide) (by omega)] at h
        omega
      subst this
      have e1 : res = W := hr
      rw [e1] at hK
      exact hK
    · rw [nI_leI (by decide) (by omega)] at h
      obtain ⟨d, hd⟩ : ∃ d, 8 - i = d + 1 := ⟨8 - i - 1, by omega⟩
      have hd9 : 8 - (i + 1) = d := by omega
      rw [hd] at hr
      refine ⟨fun h2 => ?_, fun h2 => ?_⟩
      · have h0 : r = 0 := by
          rcases Nat.eq_zero_or_pos r with q | q
          · exact q
          · exact absurd h2 (nI_nle q (by omega))
        subst h0
        rw [cmpW_0] at hr
        rw [hr] at hK
        exact hK
      · have h0 : 0 < r := by
          rcases Nat.eq_zero_or_pos r with q | q
          · subst q; exact absurd (by decide) h2
          · exact q
        have hb := gBest_ok (vGa v) W r
        have hel := gE_le hb h0
        simp only [cmpW, if_pos h0] at hr
        refine ⟨_, r, W, vAd v, vGa v, rfl, rfl, by omega, fun t ht => by have := sum_le (W := W) ht; omega, rfl, ?_⟩
        refine ⟨8 - (i + 1), by omega, i + 1, _, r - (gBest (vGa v) W r).2.1, rfl, by omega, grow_sum h0 hs, by rw [hr, hd9], by rw [nI_add, pk_sub hel], eqL_rfl _, rfl, rfl⟩
  · refine g_with (X := X) 5 [0, 1, 2, 3] (fun μ vs es k n => ∃ (i : Nat) (w : Nat → Int32), μ = 4 - i ∧ i ≤ 4 ∧ sumN L i ≤ 2 * i ∧ (∀ j, j < i → w j = nI (L j)) ∧ vs = [.ref 0, .ref 2, .int (nI (8 - sumN L i)), .int (nI i)] ∧ es = tgA 0 w ++ stV 2 v ∧ k = 0 ∧ n = 0) hc2 (fun μ hc vs es k n hI => ?_) (fun hc => ?_)
    · obtain ⟨i, w, rfl, hi, hsl, hw, rfl, rfl, rfl, rfl⟩ := hI
      refine g_go hf hc 5 ?_
      refine ⟨fun h => ?_, fun h => ?_⟩
      · have h4 : i = 4 := by
          rw [nI_leI (by decide) (by omega)] at h
          omega
        subst h4
        refine ⟨8, 0, L, 8 - sumN L 4, rfl, by omega, by omega, hres.symm, rfl, ⟨rfl, ⟨rfl, rfl, fun j hj => hw j hj⟩, eqL_rfl _⟩, rfl, rfl⟩
      · have h4 : i < 4 := by
          rw [nI_leI (by decide) (by omega)] at h
          omega
        obtain ⟨hl1, hl2⟩ := hL i h4
        refine ⟨i, rfl, h4, ?_⟩
        refine ⟨i, rfl, h4, ?_⟩
        refine ⟨i, rfl, h4, ?_⟩
        refine ⟨4 - (i + 1), by omega, i + 1, upd w i (vLe v i), rfl, by omega, by simp only [sumN]; omega, fun j hj => ?_, ?_, rfl, rfl, rfl⟩
        · unfold upd
          by_cases hj2 : j = i
          · subst hj2
            rw [if_pos rfl, hl1]
          · rw [if_neg hj2]
            exact hw j (by omega)
        · have e1 : upd w i (vLe v i) i = nI (L i) := by unfold upd; rw [if_pos rfl, hl1]
          rw [e1, nI_add, pk_sub (by omega)]
          simp only [sumN]
          rw [Nat.sub_sub]
    · refine wr_ok hf hc 5 0 _ _ _ _ _ ?_
      exact ⟨4, 0, wy, rfl, by omega, by simp [sumN], fun j hj => absurd hj (by omega), rfl, rfl, rfl, rfl⟩
end MT

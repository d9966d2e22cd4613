/-! Monitors: contracts. -/
section MM
def sX6_isSampled : gS := fun av es K => ∃ s, av = [.int s] ∧ es = [] ∧ K (some (.int (bI (decide (s = nI 0) || decide (s = nI 2))))) []
def rmX6_isSampled : Room := { frames := 0, cells := 0, slots := 0, locals := 0 }
def pX6_isSampled (K : gK) : List (Nat × gO) := [(0, oF (oILoad 0)), (1, oIf_eq 9), (4, oILoad 0), (5, oConst (nI 2)), (6, oICmp_ne 13), (9, oConst (nI 1)), (10, oGoto 14), (13, oConst (nI 0)), (14, oRetZ K 0 0)]
set_option maxRecDepth 100000 in
theorem kX6_isSampled {X : gX} {l : Launch} (hM : gM X l cX6_isSampled RX6 wsX6_isSampled rmX6_isSampled) {K : gK} (hE : gR X K 0 0 (some .boolean)) (hnL : X.2.2.2.2.2.2.2.2.2.2.2.2.2.2.2.2 = 1) : okL X (pX6_isSampled K) := by
  obtain ⟨p, l1, e, R, s, m, args, below, meth, c, D, cA, A, ag, ad0, Q, nL⟩ := X
  cases hnL
  refine ⟨ok_F (ok_iload_n hM 0 dX6_isSampled_0 rfl),
    ok_if_eq hM 9 dX6_isSampled_1 (by decide),
    ok_iload_n hM 0 dX6_isSampled_4 rfl,
    ok_iconst hM dX6_isSampled_5 rfl,
    ok_icmp_ne hM 13 dX6_isSampled_6 (by decide),
    ok_iconst hM dX6_isSampled_9 rfl,
    ok_goto hM 14 dX6_isSampled_10 (by decide),
    ok_iconst hM dX6_isSampled_13 rfl,
    ok_retZ hM hE dX6_isSampled_14,
    trivial⟩
set_option maxRecDepth 100000 in
theorem ctX6_isSampled (l : Launch) : Ct l yX6_isSampled wsX6_isSampled rmX6_isSampled 0 0 false sX6_isSampled := by
  refine ct_of (own := RX6) (cc := cX6_isSampled) (maxL := 1) (ret := (some .boolean)) (by decide) rfl rfl (by rintro _ _ _ ⟨s, rfl, rfl, hK⟩; exact Nat.le_of_ble_eq_true rfl) ?_
  intro X av es K hM hE hag hin hnL hsp
  obtain ⟨s, rfl, rfl, hK⟩ := hsp
  have hf := kX6_isSampled hM hE hnL
  refine wr_ok hf cut_nil 5 0 _ _ _ _ _ ?_
  refine ⟨fun h => ?_, fun h => ?_⟩
  · have e : (decide (s = nI 0) || decide (s = nI 2)) = true := by rw [show s = nI 0 from h]; rfl
    rw [e] at hK
    exact ⟨by decide, hK⟩
  · have h0 : ¬ s = nI 0 := h
    refine ⟨fun h2 => ?_, fun h2 => ?_⟩
    · have e : (decide (s = nI 0) || decide (s = nI 2)) = false := by rw [decide_eq_false h0, decide_eq_false h2]; rfl
      rw [e] at hK
      exact ⟨by decide, hK⟩
    · have e : (decide (s = nI 0) || decide (s = nI 2)) = true := by rw [h2]; rfl
      rw [e] at hK
      exact ⟨by decide, hK⟩
def sX6_listStart : gS := fun av es K => ∃ x y t s, av = [.int x, .int y] ∧ x = nI t ∧ y = nI s ∧ t < 4 ∧ s < 4 ∧ es = [] ∧ K (some (.int (nI ((t * 2 + s / 2) * 8)))) []
def rmX6_listStart : Room := { frames := 0, cells := 0, slots := 0, locals := 0 }
def pX6_listStart (K : gK) : List (Nat × gO) := [(0, oF (oILoad 0)), (1, oConst (nI 2)), (2, oMul), (3, oILoad 1), (4, oConst (nI 2)), (5, oDiv), (6, oAdd), (7, oConst (nI 8)), (9, oMul), (10, oRet K 0 0)]
set_option maxRecDepth 100000 in
theorem kX6_listStart {X : gX} {l : Launch} (hM : gM X l cX6_listStart RX6 wsX6_listStart rmX6_listStart) {K : gK} (hE : gR X K 0 0 (some .int)) (hnL : X.2.2.2.2.2.2.2.2.2.2.2.2.2.2.2.2 = 2) : okL X (pX6_listStart K) := by
  obtain ⟨p, l1, e, R, s, m, args, below, meth, c, D, cA, A, ag, ad0, Q, nL⟩ := X
  cases hnL
  refine ⟨ok_F (ok_iload_n hM 0 dX6_listStart_0 rfl),
    ok_iconst hM dX6_listStart_1 rfl,
    ok_imul hM dX6_listStart_2,
    ok_iload_n hM 1 dX6_listStart_3 rfl,
    ok_iconst hM dX6_listStart_4 rfl,
    ok_idiv hM dX6_listStart_5,
    ok_iadd hM dX6_listStart_6,
    ok_bipush hM dX6_listStart_7 rfl,
    ok_imul hM dX6_listStart_9,
    ok_ret hM hE dX6_listStart_10,
    trivial⟩
set_option maxRecDepth 100000 in
theorem ctX6_listStart (l : Launch) : Ct l yX6_listStart wsX6_listStart rmX6_listStart 0 0 false sX6_listStart := by
  refine ct_of (own := RX6) (cc := cX6_listStart) (maxL := 2) (ret := (some .int)) (by decide) rfl rfl (by rintro _ _ _ ⟨x, y, t, s, rfl, rfl, rfl, ht, hs, rfl, hK⟩; exact Nat.le_of_ble_eq_true rfl) ?_
  intro X av es K hM hE hag hin hnL hsp
  obtain ⟨x, y, t, s, rfl, rfl, rfl, ht, hs, rfl, hK⟩ := hsp
  have hf := kX6_listStart hM hE hnL
  refine wr_ok hf cut_nil 5 0 _ _ _ _ _ ?_
  refine ⟨by decide, ?_⟩
  have e : (nI t * nI 2 + nI s / nI 2) * nI 8 = nI ((t * 2 + s / 2) * 8) := by
    rw [pk_mul, pk_div (by omega) (by decide) (by decide), nI_add, pk_mul]
  rw [← e] at hK
  exact hK
abbrev moA (o : Nat) (ad ga : Nat → Int32) : List gE := [.inr (2, [.ref (o + 1), .ref (o + 2)]), .inl (0, 64, .inl ad), .inl (0, 32, .inl ga)]
abbrev moE (ad ga : Nat → Int32) : List gE := moA 0 ad ga
def sumI (f : Nat → Int32) : Nat → Int32
  | 0 => nI 0
  | n + 1 => sumI f n + f n
theorem sumI_cong {f g : Nat → Int32} : ∀ {n : Nat}, (∀ j, j < n → f j = g j) → sumI f n = sumI g n
  | 0, _ => rfl
  | n + 1, h => by
    unfold sumI
    rw [h n (by omega), sumI_cong (fun j hj => h j (by omega))]
def sX2_utilityOf : gS := fun av es K => ∃ x y t w ad ga, av = [.ref 0, .int x, .int y] ∧ x = nI t ∧ y = nI w ∧ t < 4 ∧ w ≤ 8 ∧ es = moE ad ga ∧ K (some (.int (sumI (fun p => ga (t * 8 + p)) w))) es
def rmX2_utilityOf : Room := { frames := 0, cells := 0, slots := 0, locals := 0 }
def pX2_utilityOf (K : gK) : List (Nat × gO) := [(0, oConst (nI 0)), (1, oF (oIStore 5 3)), (2, oConst (nI 0)), (3, oF (oIStore 5 4)), (5, oF (oILoad 4)), (7, oConst (nI 8)), (9, oICmp_ge 39), (12, oILoad 4), (14, oILoad 2), (15, oICmp_ge 39), (18, oILoad 3), (19, oALoad 0), (20, oGet 2 1), (23, oILoad 1), (24, oConst (nI 8)), (26, oMul), (27, oILoad 4), (29, oAdd), (30, oIALd 0), (31, oAdd), (32, oIStore 5 3), (33, oF (oIInc 5 4 (nI 1))), (36, oGoto 5), (39, oF (oILoad 3)), (40, oRet K 0 0)]
set_option maxRecDepth 100000 in
theorem kX2_utilityOf {X : gX} {l : Launch} (hM : gM X l cX2_utilityOf RX2 wsX2_utilityOf rmX2_utilityOf) {K : gK} (hE : gR X K 0 0 (some .int)) (hnL : X.2.2.2.2.2.2.2.2.2.2.2.2.2.2.2.2 = 5) : okL X (pX2_utilityOf K) := by
  obtain ⟨p, l1, e, R, s, m, args, below, meth, c, D, cA, A, ag, ad0, Q, nL⟩ := X
  cases hnL
  refine ⟨ok_iconst hM dX2_utilityOf_0 rfl,
    ok_F (ok_istore_n hM 3 dX2_utilityOf_1 rfl),
    ok_iconst hM dX2_utilityOf_2 rfl,
    ok_F (ok_istore hM 4 dX2_utilityOf_3),
    ok_F (ok_iload hM 4 dX2_utilityOf_5),
    ok_bipush hM dX2_utilityOf_7 rfl,
    ok_icmp_ge hM 39 dX2_utilityOf_9 (by decide),
    ok_iload hM 4 dX2_utilityOf_12,
    ok_iload_n hM 2 dX2_utilityOf_14 rfl,
    ok_icmp_ge hM 39 dX2_utilityOf_15 (by decide),
    ok_iload_n hM 3 dX2_utilityOf_18 rfl,
    ok_aload_n hM 0 dX2_utilityOf_19 rfl,
    ok_get (C := RX2) (T := TX2) (Nf := 2) hM (fun _ h => List.mem_cons_of_mem _ (List.mem_append_right _ h)) rfl 1 (by decide) (List.mem_of_getElem? (i := 1) rfl) rfl dX2_utilityOf_20,
    ok_iload_n hM 1 dX2_utilityOf_23 rfl,
    ok_bipush hM dX2_utilityOf_24 rfl,
    ok_imul hM dX2_utilityOf_26,
    ok_iload hM 4 dX2_utilityOf_27,
    ok_iadd hM dX2_utilityOf_29,
    ok_iald hM dX2_utilityOf_30,
    ok_iadd hM dX2_utilityOf_31,
    ok_istore_n hM 3 dX2_utilityOf_32 rfl,
    ok_F (ok_iinc hM 4 dX2_utilityOf_33 rfl),
    ok_goto hM 5 dX2_utilityOf_36 (by decide),
    ok_F (ok_iload_n hM 3 dX2_utilityOf_39 rfl),
    ok_ret hM hE dX2_utilityOf_40,
    trivial⟩
set_option maxRecDepth 100000 in
theorem ctX2_utilityOf (l : Launch) : Ct l yX2_utilityOf wsX2_utilityOf rmX2_utilityOf 0 0 false sX2_utilityOf := by
  refine ct_of (own := RX2) (cc := cX2_utilityOf) (maxL := 5) (ret := (some .int)) (by decide) rfl rfl (by rintro _ _ _ ⟨x, y, t, w, ad, ga, rfl, rfl, rfl, ht, hw, rfl, hK⟩; exact Nat.le_of_ble_eq_true rfl) ?_
  intro X av es K hM hE hag hin hnL hsp
  obtain ⟨x, y, t, w, ad, ga, rfl, rfl, rfl, ht, hw, rfl, hK⟩ := hsp
  have hf := kX2_utilityOf hM hE hnL
  refine g_with (X := X) 5 [0, 1, 2, 3, 4] (fun μ vs es k n => ∃ i : Nat, μ = 8 - i ∧ i ≤ w ∧ vs = [.ref 0, .int (nI t), .int (nI w), .int (sumI (fun p => ga (t * 8 + p)) i), .int (nI i)] ∧ es = moE ad ga ∧ k = 0 ∧ n = 0) cut_nil (fun μ hc vs es k n hI => ?_) (fun hc => ?_)
  · obtain ⟨i, rfl, hi, rfl, rfl, rfl, rfl⟩ := hI
    refine g_go hf hc 5 ?_
    refine ⟨fun h => ?_, fun h => ?_⟩
    · have : i = w := by
        rw [nI_leI (by decide) (by omega)] at h
        omega
      subst this
      exact hK
    · rw [nI_leI (by decide) (by omega)] at h
      refine ⟨fun h2 => ?_, fun h2 => ?_⟩
      · have : i = w := by
          rw [nI_leI (by omega) (by omega)] at h2
          omega
        subst this
        exact hK
      · rw [nI_leI (by omega) (by omega)] at h2
        refine ⟨t * 8 + i, by rw [pk_mul, nI_add], by omega, ?_⟩
        exact ⟨8 - (i + 1), by omega, i + 1, rfl, by omega, by rw [nI_add]; rfl, rfl, rfl, rfl⟩
  · refine wr_ok hf hc 5 0 _ _ _ _ _ ?_
    exact ⟨8, 0, rfl, by omega, rfl, rfl, rfl, rfl⟩
def sX2_sumOfGains : gS := fun av es K => ∃ ad ga, av = [.ref 0] ∧ es = moE ad ga ∧ K (some (.int (sumI ga 32))) es
def rmX2_sumOfGains : Room := { frames := 0, cells := 0, slots := 0, locals := 0 }
def pX2_sumOfGains (K : gK) : List (Nat × gO) := [(0, oConst (nI 0)), (1, oF (oIStore 3 1)), (2, oConst (nI 0)), (3, oF (oIStore 3 2)), (4, oF (oILoad 2)), (5, oALoad 0), (6, oGet 2 1), (9, oALen), (10, oICmp_ge 28), (13, oILoad 1), (14, oALoad 0), (15, oGet 2 1), (18, oILoad 2), (19, oIALd 0), (20, oAdd), (21, oIStore 3 1), (22, oF (oIInc 3 2 (nI 1))), (25, oGoto 4), (28, oF (oILoad 1)), (29, oRet K 0 0)]
set_option maxRecDepth 100000 in
theorem kX2_sumOfGains {X : gX} {l : Launch} (hM : gM X l cX2_sumOfGains RX2 wsX2_sumOfGains rmX2_sumOfGains) {K : gK} (hE : gR X K 0 0 (some .int)) (hnL : X.2.2.2.2.2.2.2.2.2.2.2.2.2.2.2.2 = 3) : okL X (pX2_sumOfGains K) := by
  obtain ⟨p, l1, e, R, s, m, args, below, meth, c, D, cA, A, ag, ad0, Q, nL⟩ := X
  cases hnL
  refine ⟨ok_iconst hM dX2_sumOfGains_0 rfl,
    ok_F (ok_istore_n hM 1 dX2_sumOfGains_1 rfl),
    ok_iconst hM dX2_sumOfGains_2 rfl,
    ok_F (ok_istore_n hM 2 dX2_sumOfGains_3 rfl),
    ok_F (ok_iload_n hM 2 dX2_sumOfGains_4 rfl),
    ok_aload_n hM 0 dX2_sumOfGains_5 rfl,
    ok_get (C := RX2) (T := TX2) (Nf := 2) hM (fun _ h => List.mem_cons_of_mem _ (List.mem_append_right _ h)) rfl 1 (by decide) (List.mem_of_getElem? (i := 1) rfl) rfl dX2_sumOfGains_6,
    ok_alen hM dX2_sumOfGains_9,
    ok_icmp_ge hM 28 dX2_sumOfGains_10 (by decide),
    ok_iload_n hM 1 dX2_sumOfGains_13 rfl,
    ok_aload_n hM 0 dX2_sumOfGains_14 rfl,
    ok_get (C := RX2) (T := TX2) (Nf := 2) hM (fun _ h => List.mem_cons_of_mem _ (List.mem_append_right _ h)) rfl 1 (by decide) (List.mem_of_getElem? (i := 1) rfl) rfl dX2_sumOfGains_15,
    ok_iload_n hM 2 dX2_sumOfGains_18 rfl,
    ok_iald hM dX2_sumOfGains_19,
    ok_iadd hM dX2_sumOfGains_20,
    ok_istore_n hM 1 dX2_sumOfGains_21 rfl,
    ok_F (ok_iinc hM 2 dX2_sumOfGains_22 rfl),
    ok_goto hM 4 dX2_sumOfGains_25 (by decide),
    ok_F (ok_iload_n hM 1 dX2_sumOfGains_28 rfl),
    ok_ret hM hE dX2_sumOfGains_29,
    trivial⟩
set_option maxRecDepth 100000 in
theorem ctX2_sumOfGains (l : Launch) : Ct l yX2_sumOfGains wsX2_sumOfGains rmX2_sumOfGains 0 0 false sX2_sumOfGains := by
  refine ct_of (own := RX2) (cc := cX2_sumOfGains) (maxL := 3) (ret := (some .int)) (by decide) rfl rfl (by rintro _ _ _ ⟨ad, ga, rfl, rfl, hK⟩; exact Nat.le_of_ble_eq_true rfl) ?_
  intro X av es K hM hE hag hin hnL hsp
  obtain ⟨ad, ga, rfl, rfl, hK⟩ := hsp
  have hf := kX2_sumOfGains hM hE hnL
  refine g_with (X := X) 4 [0, 1, 2] (fun μ vs es k n => ∃ i : Nat, μ = 32 - i ∧ i ≤ 32 ∧ vs = [.ref 0, .int (sumI ga i), .int (nI i)] ∧ es = moE ad ga ∧ k = 0 ∧ n = 0) cut_nil (fun μ hc vs es k n hI => ?_) (fun hc => ?_)
  · obtain ⟨i, rfl, hi, rfl, rfl, rfl, rfl⟩ := hI
    refine g_go hf hc 5 ?_
    refine ⟨fun h => ?_, fun h => ?_⟩
    · have : i = 32 := by
        rw [nI_leI (by decide) (by omega)] at h
        omega
      subst this
      exact hK
    · rw [nI_leI (by decide) (by omega)] at h
      refine ⟨i, rfl, by omega, ?_⟩
      exact ⟨32 - (i + 1), by omega, i + 1, rfl, by omega, by rw [nI_add]; rfl, rfl, rfl, rfl⟩
  · refine wr_ok hf hc 5 0 _ _ _ _ _ ?_
    exact ⟨32, 0, rfl, by omega, rfl, rfl, rfl, rfl⟩
def hlv (ga : Nat → Int32) : Nat → Int32 := fun j => ga j / nI 2
def sX2_halve : gS := fun av es K => ∃ ad ga, av = [.ref 0] ∧ es = moE ad ga ∧ K none (moE ad (hlv ga))
def rmX2_halve : Room := { frames := 0, cells := 0, slots := 0, locals := 0 }
def pX2_halve (K : gK) : List (Nat × gO) := [(0, oConst (nI 0)), (1, oF (oIStore 2 1)), (2, oF (oILoad 1)), (3, oALoad 0), (4, oGet 2 1), (7, oALen), (8, oICmp_ge 27), (11, oALoad 0), (12, oGet 2 1), (15, oILoad 1), (16, oDup2), (17, oIALd 0), (18, oConst (nI 2)), (19, oDiv), (20, oIASt), (21, oF (oIInc 2 1 (nI 1))), (24, oGoto 2), (27, oF (oRetV K 0 0))]
set_option maxRecDepth 100000 in
theorem kX2_halve {X : gX} {l : Launch} (hM : gM X l cX2_halve RX2 wsX2_halve rmX2_halve) {K : gK} (hE : gR X K 0 0 none) (hnL : X.2.2.2.2.2.2.2.2.2.2.2.2.2.2.2.2 = 2) : okL X (pX2_halve K) := by
  obtain ⟨p, l1, e, R, s, m, args, below, meth, c, D, cA, A, ag, ad0, Q, nL⟩ := X
  cases hnL
  refine ⟨ok_iconst hM dX2_halve_0 rfl,
    ok_F (ok_istore_n hM 1 dX2_halve_1 rfl),
    ok_F (ok_iload_n hM 1 dX2_halve_2 rfl),
    ok_aload_n hM 0 dX2_halve_3 rfl,
    ok_get (C := RX2) (T := TX2) (Nf := 2) hM (fun _ h => List.mem_cons_of_mem _ (List.mem_append_right _ h)) rfl 1 (by decide) (List.mem_of_getElem? (i := 1) rfl) rfl dX2_halve_4,
    ok_alen hM dX2_halve_7,
    ok_icmp_ge hM 27 dX2_halve_8 (by decide),
    ok_aload_n hM 0 dX2_halve_11 rfl,
    ok_get (C := RX2) (T := TX2) (Nf := 2) hM (fun _ h => List.mem_cons_of_mem _ (List.mem_append_right _ h)) rfl 1 (by decide) (List.mem_of_getElem? (i := 1) rfl) rfl dX2_halve_12,
    ok_iload_n hM 1 dX2_halve_15 rfl,
    ok_dup2 hM dX2_halve_16,
    ok_iald hM dX2_halve_17,
    ok_iconst hM dX2_halve_18 rfl,
    ok_idiv hM dX2_halve_19,
    ok_iast hM dX2_halve_20,
    ok_F (ok_iinc hM 1 dX2_halve_21 rfl),
    ok_goto hM 2 dX2_halve_24 (by decide),
    ok_F (ok_retV hM hE dX2_halve_27),
    trivial⟩
set_option maxRecDepth 100000 in
theorem ctX2_halve (l : Launch) : Ct l yX2_halve wsX2_halve rmX2_halve 0 0 false sX2_halve := by
  refine ct_of (own := RX2) (cc := cX2_halve) (maxL := 2) (ret := none) (by decide) rfl rfl (by rintro _ _ _ ⟨ad, ga, rfl, rfl, hK⟩; exact Nat.le_of_ble_eq_true rfl) ?_
  intro X av es K hM hE hag hin hnL hsp
  obtain ⟨ad, ga, rfl, rfl, hK⟩ := hsp
  have hf := kX2_halve hM (gR_eqv hE) hnL
  refine g_with (X := X) 2 [0, 1] (fun μ vs es k n => ∃ (i : Nat) (g : Nat → Int32), μ = 32 - i ∧ i ≤ 32 ∧ (∀ j, g j = if j < i then ga j / nI 2 else ga j) ∧ vs = [.ref 0, .int (nI i)] ∧ es = moE ad g ∧ k = 0 ∧ n = 0) cut_nil (fun μ hc vs es k n hI => ?_) (fun hc => ?_)
  · obtain ⟨i, g, rfl, hi, hg, rfl, rfl, rfl, rfl⟩ := hI
    refine g_go hf hc 5 ?_
    refine ⟨fun h => ?_, fun h => ?_⟩
    · have : i = 32 := by
        rw [nI_leI (by decide) (by omega)] at h
        omega
      subst this
      exact ⟨moE ad (hlv ga), ⟨rfl, ⟨rfl, rfl, fun _ _ => rfl⟩, ⟨rfl, rfl, fun j hj => by rw [hg, if_pos hj]; rfl⟩, trivial⟩, hK⟩
    · rw [nI_leI (by decide) (by omega)] at h
      refine ⟨i, rfl, by omega, ?_⟩
      refine ⟨by decide, ?_⟩
      refine ⟨i, rfl, by omega, ?_⟩
      refine ⟨32 - (i + 1), by omega, i + 1, upd g i (g i / nI 2), rfl, by omega, fun j => ?_, by rw [nI_add], rfl, rfl, rfl⟩
      unfold upd
      by_cases hj : j = i
      · subst hj
        rw [if_pos rfl, if_pos (by omega), hg, if_neg (by omega)]
      · rw [if_neg hj, hg]
        by_cases hj2 : j < i
        · rw [if_pos hj2, if_pos (by omega)]
        · rw [if_neg hj2, if_neg (by omega)]
  · refine wr_ok hf hc 5 0 _ _ _ _ _ ?_
    exact ⟨32, 0, ga, rfl, by omega, fun j => by simp, rfl, rfl, rfl, rfl⟩
def sX2_copyFrom : gS := fun av es K => ∃ ad ga ad' ga', av = [.ref 0, .ref 3] ∧ es = moA 0 ad ga ++ moA 3 ad' ga' ∧ K none (moA 0 ad' ga' ++ moA 3 ad' ga')
def rmX2_copyFrom : Room := { frames := 1, cells := 0, slots := 0, locals := 60 }
def pX2_copyFrom (K : gK) : List (Nat × gO) := [(0, oF (oALoad 1)), (1, oGet 2 0), (4, oConst (nI 0)), (5, oALoad 0), (6, oGet 2 0), (9, oConst (nI 0)), (10, oALoad 0), (11, oGet 2 0), (14, oALen), (15, oCopy 60), (18, oF (oALoad 1)), (19, oGet 2 1), (22, oConst (nI 0)), (23, oALoad 0), (24, oGet 2 1), (27, oConst (nI 0)), (28, oALoad 0), (29, oGet 2 1), (32, oALen), (33, oCopy 60), (36, oF (oRetV K 0 0))]
set_option maxRecDepth 100000 in
theorem kX2_copyFrom {X : gX} {l : Launch} (hM : gM X l cX2_copyFrom RX2 wsX2_copyFrom rmX2_copyFrom) {K : gK} (hE : gR X K 0 0 none) (hnL : X.2.2.2.2.2.2.2.2.2.2.2.2.2.2.2.2 = 2) : okL X (pX2_copyFrom K) := by
  obtain ⟨p, l1, e, R, s, m, args, below, meth, c, D, cA, A, ag, ad0, Q, nL⟩ := X
  cases hnL
  refine ⟨ok_F (ok_aload_n hM 1 dX2_copyFrom_0 rfl),
    ok_get (C := RX2) (T := TX2) (Nf := 2) hM (fun _ h => List.mem_cons_of_mem _ (List.mem_append_right _ h)) rfl 0 (by decide) (List.mem_of_getElem? (i := 1) rfl) rfl dX2_copyFrom_1,
    ok_iconst hM dX2_copyFrom_4 rfl,
    ok_aload_n hM 0 dX2_copyFrom_5 rfl,
    ok_get (C := RX2) (T := TX2) (Nf := 2) hM (fun _ h => List.mem_cons_of_mem _ (List.mem_append_right _ h)) rfl 0 (by decide) (List.mem_of_getElem? (i := 1) rfl) rfl dX2_copyFrom_6,
    ok_iconst hM dX2_copyFrom_9 rfl,
    ok_aload_n hM 0 dX2_copyFrom_10 rfl,
    ok_get (C := RX2) (T := TX2) (Nf := 2) hM (fun _ h => List.mem_cons_of_mem _ (List.mem_append_right _ h)) rfl 0 (by decide) (List.mem_of_getElem? (i := 1) rfl) rfl dX2_copyFrom_11,
    ok_alen hM dX2_copyFrom_14,
    ok_copy hM (List.mem_of_getElem? (i := 2) rfl) (List.mem_of_getElem? (i := 3) rfl) (List.mem_of_getElem? (i := 4) rfl) (List.mem_of_getElem? (i := 5) rfl) (by decide) (by decide +kernel) dX2_copyFrom_15,
    ok_F (ok_aload_n hM 1 dX2_copyFrom_18 rfl),
    ok_get (C := RX2) (T := TX2) (Nf := 2) hM (fun _ h => List.mem_cons_of_mem _ (List.mem_append_right _ h)) rfl 1 (by decide) (List.mem_of_getElem? (i := 6) rfl) rfl dX2_copyFrom_19,
    ok_iconst hM dX2_copyFrom_22 rfl,
    ok_aload_n hM 0 dX2_copyFrom_23 rfl,
    ok_get (C := RX2) (T := TX2) (Nf := 2) hM (fun _ h => List.mem_cons_of_mem _ (List.mem_append_right _ h)) rfl 1 (by decide) (List.mem_of_getElem? (i := 6) rfl) rfl dX2_copyFrom_24,
    ok_iconst hM dX2_copyFrom_27 rfl,
    ok_aload_n hM 0 dX2_copyFrom_28 rfl,
    ok_get (C := RX2) (T := TX2) (Nf := 2) hM (fun _ h => List.mem_cons_of_mem _ (List.mem_append_right _ h)) rfl 1 (by decide) (List.mem_of_getElem? (i := 6) rfl) rfl dX2_copyFrom_29,
    ok_alen hM dX2_copyFrom_32,
    ok_copy hM (List.mem_of_getElem? (i := 2) rfl) (List.mem_of_getElem? (i := 3) rfl) (List.mem_of_getElem? (i := 4) rfl) (List.mem_of_getElem? (i := 5) rfl) (by decide) (by decide +kernel) dX2_copyFrom_33,
    ok_F (ok_retV hM hE dX2_copyFrom_36),
    trivial⟩
set_option maxRecDepth 100000 in
theorem ctX2_copyFrom (l : Launch) : Ct l yX2_copyFrom wsX2_copyFrom rmX2_copyFrom 0 0 false sX2_copyFrom := by
  refine ct_of (own := RX2) (cc := cX2_copyFrom) (maxL := 2) (ret := none) (by decide) rfl rfl (by rintro _ _ _ ⟨ad, ga, ad', ga', rfl, rfl, hK⟩; exact Nat.le_of_ble_eq_true rfl) ?_
  intro X av es K hM hE hag hin hnL hsp
  obtain ⟨ad, ga, ad', ga', rfl, rfl, hK⟩ := hsp
  have hf := kX2_copyFrom hM (gR_eqv hE) hnL
  refine wr_ok hf cut_nil 5 0 _ _ _ _ _ ?_
  refine ⟨64, rfl, rfl, rfl, by omega, by omega, ?_⟩
  refine ⟨32, rfl, rfl, rfl, by omega, by omega, ?_⟩
  exact ⟨moA 0 ad' ga' ++ moA 3 ad' ga', ⟨rfl, ⟨rfl, rfl, fun _ h => cpy0 h⟩, ⟨rfl, rfl, fun _ h => cpy0 h⟩, rfl, ⟨rfl, rfl, fun _ _ => rfl⟩, ⟨rfl, rfl, fun _ _ => rfl⟩, trivial⟩, hK⟩
-- note
def lastm (p : Nat → Bool) : Nat → Nat
  | 0 => 7
  | n + 1 => if p n = true then n else lastm p n
theorem lastm_le (p : Nat → Bool) : ∀ {n : Nat}, n ≤ 8 → lastm p n ≤ 7
  | 0, _ => Nat.le_refl _
  | n + 1, h => by
    unfold lastm
    split
    · omega
    · exact lastm_le p (by omega)
def nGa (ad ga : Nat → Int32) (t s a : Nat) : Nat → Int32 := fun j => if 8 * t ≤ j ∧ j < 8 * t + 8 ∧ ad (s + (j - 8 * t)) = nI a then ga j + nI 1 else ga j
def nL (ad : Nat → Int32) (s a : Nat) : Nat := lastm (fun p => decide (ad (s + p) = nI a)) 8
def nAd (ad : Nat → Int32) (s a : Nat) : Nat → Int32 := fun j => if j = s then nI a else if s < j ∧ j ≤ s + nL ad s a then ad (j - 1) else ad j
def sX2_note : gS := fun av es K => ∃ x y t a ad ga, av = [.ref 0, .int x, .int y] ∧ x = nI t ∧ y = nI a ∧ t < 4 ∧ a < 256 ∧ es = moE ad ga ∧ K none (moE (if a % 2 = 0 then nAd ad ((t * 2 + a % 4 / 2) * 8) a else ad) (if a % 2 = 0 then nGa ad ga t ((t * 2 + a % 4 / 2) * 8) a else ga))
def rmX2_note : Room := { frames := 1, cells := 0, slots := 0, locals := 21 }
def pX2_note (K : gK) : List (Nat × gO) := [(0, oF (oILoad 2)), (1, oConst (nI 4)), (2, oRem), (3, oIStore 7 3), (4, oF (oILoad 3)), (5, oCallS 0 0 1 [] sX6_isSampled), (8, oF (oIf_ne 12)), (11, oRetV K 0 0), (12, oILoad 1), (13, oILoad 3), (14, oCallS 0 0 2 [] sX6_listStart), (17, oF (oIStore 7 4)), (19, oConst (nI 7)), (21, oF (oIStore 7 5)), (23, oConst (nI 0)), (24, oF (oIStore 7 6)), (26, oF (oILoad 6)), (28, oConst (nI 8)), (30, oICmp_ge 73), (33, oALoad 0), (34, oGet 2 0), (37, oILoad 4), (39, oILoad 6), (41, oAdd), (42, oIALd 0), (43, oILoad 2), (44, oICmp_ne 67), (47, oALoad 0), (48, oGet 2 1), (51, oILoad 1), (52, oConst (nI 8)), (54, oMul), (55, oILoad 6), (57, oAdd), (58, oDup2), (59, oIALd 0), (60, oConst (nI 1)), (61, oAdd), (62, oIASt), (63, oF (oILoad 6)), (65, oIStore 7 5), (67, oF (oIInc 7 6 (nI 1))), (70, oGoto 26), (73, oF (oILoad 5)), (75, oIStore 7 6), (77, oF (oILoad 6)), (79, oIf_le 110), (82, oALoad 0), (83, oGet 2 0), (86, oILoad 4), (88, oILoad 6), (90, oAdd), (91, oALoad 0), (92, oGet 2 0), (95, oILoad 4), (97, oILoad 6), (99, oAdd), (100, oConst (nI 1)), (101, oSub), (102, oIALd 0), (103, oIASt), (104, oF (oIInc 7 6 (-1))), (107, oGoto 77), (110, oF (oALoad 0)), (111, oGet 2 0), (114, oILoad 4), (116, oILoad 2), (117, oIASt), (118, oF (oRetV K 0 0))]
set_option maxRecDepth 100000 in
theorem kX2_note {X : gX} {l : Launch} (hM : gM X l cX2_note RX2 wsX2_note rmX2_note) {K : gK} (hE : gR X K 0 0 none) (hnL : X.2.2.2.2.2.2.2.2.2.2.2.2.2.2.2.2 = 7) : okL X (pX2_note K) := by
  obtain ⟨p, l1, e, R, s, m, args, below, meth, c, D, cA, A, ag, ad0, Q, nL⟩ := X
  cases hnL
  refine ⟨ok_F (ok_iload_n hM 2 dX2_note_0 rfl),
    ok_iconst hM dX2_note_1 rfl,
    ok_irem hM dX2_note_2,
    ok_istore_n hM 3 dX2_note_3 rfl,
    ok_F (ok_iload_n hM 3 dX2_note_4 rfl),
    ok_callSN hM [] (ctX6_isSampled l) rfl gX2_note_X6_isSampled_n24 rfl rfl rfl (by decide) (List.mem_of_getElem? (i := 3) rfl) (List.mem_of_getElem? (i := 4) rfl) (by decide +kernel) (by decide) dX2_note_5,
    ok_F (ok_if_ne hM 12 dX2_note_8 (by decide)),
    ok_retV hM hE dX2_note_11,
    ok_iload_n hM 1 dX2_note_12 rfl,
    ok_iload_n hM 3 dX2_note_13 rfl,
    ok_callSN hM [] (ctX6_listStart l) rfl gX2_note_X6_listStart_n28 rfl rfl rfl (by decide) (List.mem_of_getElem? (i := 6) rfl) (List.mem_of_getElem? (i := 4) rfl) (by decide +kernel) (by decide) dX2_note_14,
    ok_F (ok_istore hM 4 dX2_note_17),
    ok_bipush hM dX2_note_19 rfl,
    ok_F (ok_istore hM 5 dX2_note_21),
    ok_iconst hM dX2_note_23 rfl,
    ok_F (ok_istore hM 6 dX2_note_24),
    ok_F (ok_iload hM 6 dX2_note_26),
    ok_bipush hM dX2_note_28 rfl,
    ok_icmp_ge hM 73 dX2_note_30 (by decide),
    ok_aload_n hM 0 dX2_note_33 rfl,
    ok_get (C := RX2) (T := TX2) (Nf := 2) hM (fun _ h => List.mem_cons_of_mem _ (List.mem_append_right _ h)) rfl 0 (by decide) (List.mem_of_getElem? (i := 1) rfl) rfl dX2_note_34,
    ok_iload hM 4 dX2_note_37,
    ok_iload hM 6 dX2_note_39,
    ok_iadd hM dX2_note_41,
    ok_iald hM dX2_note_42,
    ok_iload_n hM 2 dX2_note_43 rfl,
    ok_icmp_ne hM 67 dX2_note_44 (by decide),
    ok_aload_n hM 0 dX2_note_47 rfl,
    ok_get (C := RX2) (T := TX2) (Nf := 2) hM (fun _ h => List.mem_cons_of_mem _ (List.mem_append_right _ h)) rfl 1 (by decide) (List.mem_of_getElem? (i := 2) rfl) rfl dX2_note_48,
    ok_iload_n hM 1 dX2_note_51 rfl,
    ok_bipush hM dX2_note_52 rfl,
    ok_imul hM dX2_note_54,
    ok_iload hM 6 dX2_note_55,
    ok_iadd hM dX2_note_57,
    ok_dup2 hM dX2_note_58,
    ok_iald hM dX2_note_59,
    ok_iconst hM dX2_note_60 rfl,
    ok_iadd hM dX2_note_61,
    ok_iast hM dX2_note_62,
    ok_F (ok_iload hM 6 dX2_note_63),
    ok_istore hM 5 dX2_note_65,
    ok_F (ok_iinc hM 6 dX2_note_67 rfl),
    ok_goto hM 26 dX2_note_70 (by decide),
    ok_F (ok_iload hM 5 dX2_note_73),
    ok_istore hM 6 dX2_note_75,
    ok_F (ok_iload hM 6 dX2_note_77),
    ok_if_le hM 110 dX2_note_79 (by decide),
    ok_aload_n hM 0 dX2_note_82 rfl,
    ok_get (C := RX2) (T := TX2) (Nf := 2) hM (fun _ h => List.mem_cons_of_mem _ (List.mem_append_right _ h)) rfl 0 (by decide) (List.mem_of_getElem? (i := 1) rfl) rfl dX2_note_83,
    ok_iload hM 4 dX2_note_86,
    ok_iload hM 6 dX2_note_88,
    ok_iadd hM dX2_note_90,
    ok_aload_n hM 0 dX2_note_91 rfl,
    ok_get (C := RX2) (T := TX2) (Nf := 2) hM (fun _ h => List.mem_cons_of_mem _ (List.mem_append_right _ h)) rfl 0 (by decide) (List.mem_of_getElem? (i := 1) rfl) rfl dX2_note_92,
    ok_iload hM 4 dX2_note_95,
    ok_iload hM 6 dX2_note_97,
    ok_iadd hM dX2_note_99,
    ok_iconst hM dX2_note_100 rfl,
    ok_isub hM dX2_note_101,
    ok_iald hM dX2_note_102,
    ok_iast hM dX2_note_103,
    ok_F (ok_iinc hM 6 dX2_note_104 rfl),
    ok_goto hM 77 dX2_note_107 (by decide),
    ok_F (ok_aload_n hM 0 dX2_note_110 rfl),
    ok_get (C := RX2) (T := TX2) (Nf := 2) hM (fun _ h => List.mem_cons_of_mem _ (List.mem_append_right _ h)) rfl 0 (by decide) (List.mem_of_getElem? (i := 1) rfl) rfl dX2_note_111,
    ok_iload hM 4 dX2_note_114,
    ok_iload_n hM 2 dX2_note_116 rfl,
    ok_iast hM dX2_note_117,
    ok_F (ok_retV hM hE dX2_note_118),
    trivial⟩
set_option maxRecDepth 100000 in
theorem ctX2_note (l : Launch) : Ct l yX2_note wsX2_note rmX2_note 0 0 false sX2_note := by
  refine ct_of (own := RX2) (cc := cX2_note) (maxL := 7) (ret := none) (by decide) rfl rfl (by rintro _ _ _ ⟨x, y, t, a, ad, ga, rfl, rfl, rfl, ht, ha, rfl, hK⟩; exact Nat.le_of_ble_eq_true rfl) ?_
  intro X av es K hM hE hag hin hnL hsp
  obtain ⟨x, y, t, a, ad, ga, rfl, rfl, rfl, ht, ha, rfl, hK⟩ := hsp
  have hf := kX2_note hM (gR_eqv hE) hnL
  have hs : (t * 2 + a % 4 / 2) * 8 + 8 ≤ 64 := by omega
  generalize hsd : (t * 2 + a % 4 / 2) * 8 = sr at hK hs
  have hl7 : nL ad sr a ≤ 7 := lastm_le _ (by omega)
  refine g_with (X := X) 77 [0, 1, 2, 4, 6] (fun μ vs es k n => ∃ (i : Nat) (ad' : Nat → Int32), μ = i + 1 ∧ i ≤ nL ad sr a ∧ a % 2 = 0 ∧ (∀ j, ad' j = if sr + i < j ∧ j ≤ sr + nL ad sr a then ad (j - 1) else ad j) ∧ vs = [.ref 0, .int (nI t), .int (nI a), .int (nI sr), .int (nI i)] ∧ eqL es (moE ad' (nGa ad ga t sr a)) ∧ k = 0 ∧ n = 0) cut_nil (fun μ hc vs es k n hI => ?_) (fun hc2 => ?_)
  · obtain ⟨i, ad', rfl, hi, hev, had, rfl, he, rfl, rfl⟩ := hI
    refine G_eqv he ?_
    refine g_go hf hc 5 ?_
    refine ⟨fun h => ?_, fun h => ?_⟩
    · have h0 : i = 0 := by
        rcases Nat.eq_zero_or_pos i with q | q
        · exact q
        · exact absurd h (nI_nle q (by omega))
      subst h0
      rw [if_pos hev, if_pos hev] at hK
      refine ⟨sr, rfl, by omega, ?_⟩
      refine ⟨moE (nAd ad sr a) (nGa ad ga t sr a), ⟨rfl, ⟨rfl, rfl, fun j hj => ?_⟩, ⟨rfl, rfl, fun _ _ => rfl⟩, trivial⟩, hK⟩
      simp only [upd, nAd, had, Nat.add_zero]
    · have h0 : 0 < i := by
        rcases Nat.eq_zero_or_pos i with q | q
        · subst q; exact absurd (by decide) h
        · exact q
      have e1 : nI sr + nI i - nI 1 = nI (sr + i - 1) := by rw [nI_add, pk_sub (by omega)]
      refine ⟨sr + i - 1, e1, by omega, ?_⟩
      refine ⟨sr + i, nI_add _ _, by omega, ?_⟩
      refine ⟨i - 1 + 1, by omega, i - 1, upd ad' (sr + i) (ad' (sr + i - 1)), rfl, by omega, hev, fun j => ?_, ?_, eqL_rfl _, rfl, rfl⟩
      · unfold upd
        by_cases hj : j = sr + i
        · subst hj
          rw [if_pos rfl, if_pos ⟨by omega, by omega⟩, had, if_neg (by omega)]
        · rw [if_neg hj, had]
          by_cases hj2 : sr + i < j ∧ j ≤ sr + nL ad sr a
          · rw [if_pos hj2, if_pos ⟨by omega, hj2.2⟩]
          · rw [if_neg hj2, if_neg (by omega)]
      · have e2 : nI i + (-1) = nI (i - 1) := sb_m1 h0
        rw [e2]
  · refine g_with (X := X) 26 [0, 1, 2, 4, 5, 6] (fun μ vs es k n => ∃ (i : Nat) (g : Nat → Int32), μ = 8 - i ∧ i ≤ 8 ∧ a % 2 = 0 ∧ (∀ j, g j = if 8 * t ≤ j ∧ j < 8 * t + i ∧ ad (sr + (j - 8 * t)) = nI a then ga j + nI 1 else ga j) ∧ vs = [.ref 0, .int (nI t), .int (nI a), .int (nI sr), .int (nI (lastm (fun p => decide (ad (sr + p) = nI a)) i)), .int (nI i)] ∧ es = moE ad g ∧ k = 0 ∧ n = 0) hc2 (fun μ hc vs es k n hI => ?_) (fun hc => ?_)
    · obtain ⟨i, g, rfl, hi, hev, hg, rfl, rfl, rfl, rfl⟩ := hI
      refine g_go hf hc 5 ?_
      refine ⟨fun h => ?_, fun h => ?_⟩
      · have h8 : i = 8 := by
          rw [nI_leI (by decide) (by omega)] at h
          omega
        subst h8
        refine ⟨nL ad sr a + 1, nL ad sr a, ad, rfl, Nat.le_refl _, hev, fun j => by rw [if_neg (by omega)], rfl, ⟨rfl, ⟨rfl, rfl, fun _ _ => rfl⟩, ⟨rfl, rfl, fun j _ => ?_⟩, trivial⟩, rfl, rfl⟩
        rw [hg]
        rfl
      · rw [nI_leI (by decide) (by omega)] at h
        refine ⟨sr + i, nI_add _ _, by omega, ?_⟩
        refine ⟨fun h2 => ?_, fun h2 => ?_⟩
        · refine ⟨8 - (i + 1), by omega, i + 1, g, rfl, by omega, hev, fun j => ?_, by rw [nI_add]; simp only [lastm, decide_eq_false h2, Bool.false_eq_true, if_false], rfl, rfl, rfl⟩
          rw [hg]
          by_cases hj : j = 8 * t + i
          · subst hj
            have e3 : sr + (8 * t + i - 8 * t) = sr + i := by omega
            rw [if_neg (by omega), if_neg (by rw [e3]; exact fun q => h2 q.2.2)]
          · have : (8 * t ≤ j ∧ j < 8 * t + i ∧ ad (sr + (j - 8 * t)) = nI a) ↔ (8 * t ≤ j ∧ j < 8 * t + (i + 1) ∧ ad (sr + (j - 8 * t)) = nI a) := ⟨fun q => ⟨q.1, by omega, q.2.2⟩, fun q => ⟨q.1, by omega, q.2.2⟩⟩
            simp only [this]
        · have e4 : nI t * nI 8 + nI i = nI (8 * t + i) := by rw [pk_mul, nI_add, Nat.mul_comm]
          refine ⟨8 * t + i, e4, by omega, ?_⟩
          refine ⟨8 * t + i, e4, by omega, ?_⟩
          refine ⟨8 - (i + 1), by omega, i + 1, upd g (8 * t + i) (g (8 * t + i) + nI 1), rfl, by omega, hev, fun j => ?_, by rw [nI_add]; simp only [lastm, decide_eq_true h2, if_true], rfl, rfl, rfl⟩
          unfold upd
          by_cases hj : j = 8 * t + i
          · subst hj
            have e3 : sr + (8 * t + i - 8 * t) = sr + i := by omega
            rw [if_pos rfl, if_pos ⟨by omega, by omega, by rw [e3]; exact h2⟩, hg, if_neg (by omega)]
          · rw [if_neg hj, hg]
            have : (8 * t ≤ j ∧ j < 8 * t + i ∧ ad (sr + (j - 8 * t)) = nI a) ↔ (8 * t ≤ j ∧ j < 8 * t + (i + 1) ∧ ad (sr + (j - 8 * t)) = nI a) := ⟨fun q => ⟨q.1, by omega, q.2.2⟩, fun q => ⟨q.1, by omega, q.2.2⟩⟩
            simp only [this]
    · refine wr_ok hf hc 5 0 _ _ _ _ _ ?_
      refine ⟨by decide, ?_⟩
      refine ⟨_, rfl, rfl, ?_⟩
      rw [rem4 ha]
      have hd0 : (nI (a % 4) = nI 0) ↔ a % 4 = 0 := nI_eq (by omega) (by decide)
      have hd2 : (nI (a % 4) = nI 2) ↔ a % 4 = 2 := nI_eq (by omega) (by decide)
      refine ⟨fun h => ?_, fun h => ?_⟩
      · refine ⟨_, _, t, a % 4, rfl, rfl, rfl, ht, by omega, rfl, ?_⟩
        have hev : a % 2 = 0 := by
          by_cases q : a % 2 = 0
          · exact q
          · exfalso
            apply h
            rw [bI_0, decide_eq_false (by rw [hd0]; omega), decide_eq_false (by rw [hd2]; omega)]
            rfl
        rw [hsd]
        exact ⟨8, 0, ga, rfl, by omega, hev, fun j => by rw [if_neg (by omega)], rfl, rfl, rfl, rfl⟩
      · have hev : ¬ a % 2 = 0 := by
          intro q
          rw [bI_0] at h
          have : a % 4 = 0 ∨ a % 4 = 2 := by omega
          rcases this with q | q
          · rw [decide_eq_true (hd0.mpr q)] at h
            cases h
          · rw [decide_eq_true (hd2.mpr q), Bool.or_true] at h
            cases h
        rw [if_neg hev, if_neg hev] at hK
        exact ⟨moE ad ga, eqL_rfl _, hK⟩
end MM

/-! PartitionedCacheModel: what only reads its row. -/
section MM1
abbrev rw2 (fs : List Value) (R : Nat → Int32) (r : List gE) : List gE := .inr (7, .ref 1 :: fs) :: .inl (0, 206, .inl R) :: r
abbrev hdR (R : Nat → Int32) : Nat → Int32 := fun j => R (8 + j)
abbrev stR (R : Nat → Int32) : Nat → Int32 := fun j => R (40 + j)
abbrev gaR (R : Nat → Int32) : Nat → Int32 := fun j => R (152 + j)
def sX7_in : gS := fun av es K => ∃ x y z, av = [.int x, .int y, .int z] ∧ es = [] ∧ K (some (.int (bI (decide (y ≤ x) && decide (x ≤ z))))) []
def rmX7_in : Room := { frames := 0, cells := 0, slots := 0, locals := 0 }
def pX7_in (K : gK) : List (Nat × gO) := [(0, oF (oILoad 0)), (1, oILoad 1), (2, oICmp_lt 14), (5, oILoad 0), (6, oILoad 2), (7, oICmp_gt 14), (10, oConst (nI 1)), (11, oGoto 15), (14, oConst (nI 0)), (15, oRetZ K 0 0)]
set_option maxRecDepth 100000 in
theorem kX7_in {X : gX} {l : Launch} (hM : gM X l cX7_in RX7 wsX7_in rmX7_in) {K : gK} (hE : gR X K 0 0 (some .boolean)) (hnL : X.2.2.2.2.2.2.2.2.2.2.2.2.2.2.2.2 = 3) : okL X (pX7_in K) := by
  obtain ⟨p, l1, e, R, s, m, args, below, meth, c, D, cA, A, ag, ad0, Q, nL⟩ := X
  cases hnL
  refine ⟨ok_F (ok_iload_n hM 0 dX7_in_0 rfl),
    ok_iload_n hM 1 dX7_in_1 rfl,
    ok_icmp_lt hM 14 dX7_in_2 (by decide),
    ok_iload_n hM 0 dX7_in_5 rfl,
    ok_iload_n hM 2 dX7_in_6 rfl,
    ok_icmp_gt hM 14 dX7_in_7 (by decide),
    ok_iconst hM dX7_in_10 rfl,
    ok_goto hM 15 dX7_in_11 (by decide),
    ok_iconst hM dX7_in_14 rfl,
    ok_retZ hM hE dX7_in_15,
    trivial⟩
set_option maxRecDepth 100000 in
theorem ctX7_in (l : Launch) : Ct l yX7_in wsX7_in rmX7_in 0 0 false sX7_in := by
  refine ct_of (own := RX7) (cc := cX7_in) (maxL := 3) (ret := (some .boolean)) (by decide) rfl rfl (by rintro _ _ _ ⟨x, y, z, rfl, rfl, hK⟩; exact Nat.le_of_ble_eq_true rfl) ?_
  intro X av es K hM hE hag hin hnL hsp
  obtain ⟨x, y, z, rfl, rfl, hK⟩ := hsp
  have hf := kX7_in hM hE hnL
  refine wr_ok hf cut_nil 5 0 _ _ _ _ _ ?_
  refine ⟨fun h => ?_, fun h => ?_⟩
  · have h1 : ¬ y ≤ x := by first | exact h | exact Int32.not_le.mpr h
    rw [decide_eq_false h1] at hK
    exact ⟨by decide, hK⟩
  · have h1 : y ≤ x := by first | exact h | exact Int32.not_lt.mp h
    rw [decide_eq_true h1] at hK
    refine ⟨fun h2 => ?_, fun h2 => ?_⟩
    · have h3 : ¬ x ≤ z := by first | exact h2 | exact Int32.not_le.mpr h2
      rw [decide_eq_false h3] at hK
      exact ⟨by decide, hK⟩
    · have h3 : x ≤ z := by first | exact h2 | exact Int32.not_lt.mp h2
      rw [decide_eq_true h3] at hK
      exact ⟨by decide, hK⟩
def sX7_owned : gS := fun av es K => ∃ x fs R r, av = [.ref 0, .int x] ∧ es = rw2 fs R r ∧ K (some (.int (nI (fOwn R x)))) es
def rmX7_owned : Room := { frames := 0, cells := 0, slots := 0, locals := 0 }
def pX7_owned (K : gK) : List (Nat × gO) := [(0, oConst (nI 0)), (1, oFR 2 (oIStore 4 2)), (2, oConst (nI 0)), (3, oFR 2 (oIStore 4 3)), (4, oFR 2 (oILoad 3)), (5, oConst (nI 8)), (7, oICmp_ge 36), (10, oILoad 2), (11, oALoad 0), (12, oGet 7 0), (15, oConst (nI 0)), (16, oILoad 3), (17, oAdd), (18, oIALd 0), (19, oILoad 1), (20, oICmp_ne 27), (23, oConst (nI 1)), (24, oGoto 28), (27, oConst (nI 0)), (28, oAdd), (29, oIStore 4 2), (30, oFR 2 (oIInc 4 3 (nI 1))), (33, oGoto 4), (36, oFR 2 (oILoad 2)), (37, oRet K 0 0)]
set_option maxRecDepth 100000 in
theorem kX7_owned {X : gX} {l : Launch} (hM : gM X l cX7_owned RX7 wsX7_owned rmX7_owned) {K : gK} (hE : gR X K 0 0 (some .int)) (hnL : X.2.2.2.2.2.2.2.2.2.2.2.2.2.2.2.2 = 4) : okL X (pX7_owned K) := by
  obtain ⟨p, l1, e, R, s, m, args, below, meth, c, D, cA, A, ag, ad0, Q, nL⟩ := X
  cases hnL
  refine ⟨ok_iconst hM dX7_owned_0 rfl,
    ok_FR (ok_istore_n hM 2 dX7_owned_1 rfl),
    ok_iconst hM dX7_owned_2 rfl,
    ok_FR (ok_istore_n hM 3 dX7_owned_3 rfl),
    ok_FR (ok_iload_n hM 3 dX7_owned_4 rfl),
    ok_bipush hM dX7_owned_5 rfl,
    ok_icmp_ge hM 36 dX7_owned_7 (by decide),
    ok_iload_n hM 2 dX7_owned_10 rfl,
    ok_aload_n hM 0 dX7_owned_11 rfl,
    ok_get (C := RX7) (T := TX7) (Nf := 11) hM (fun _ h => List.mem_cons_of_mem _ (List.mem_append_right _ h)) rfl 0 (by decide) (List.mem_of_getElem? (i := 1) rfl) rfl dX7_owned_12,
    ok_iconst hM dX7_owned_15 rfl,
    ok_iload_n hM 3 dX7_owned_16 rfl,
    ok_iadd hM dX7_owned_17,
    ok_iald hM dX7_owned_18,
    ok_iload_n hM 1 dX7_owned_19 rfl,
    ok_icmp_ne hM 27 dX7_owned_20 (by decide),
    ok_iconst hM dX7_owned_23 rfl,
    ok_goto hM 28 dX7_owned_24 (by decide),
    ok_iconst hM dX7_owned_27 rfl,
    ok_iadd hM dX7_owned_28,
    ok_istore_n hM 2 dX7_owned_29 rfl,
    ok_FR (ok_iinc hM 3 dX7_owned_30 rfl),
    ok_goto hM 4 dX7_owned_33 (by decide),
    ok_FR (ok_iload_n hM 2 dX7_owned_36 rfl),
    ok_ret hM hE dX7_owned_37,
    trivial⟩
set_option maxRecDepth 100000 in
theorem ctX7_owned (l : Launch) : Ct l yX7_owned wsX7_owned rmX7_owned 0 0 false sX7_owned := by
  refine ct_of (own := RX7) (cc := cX7_owned) (maxL := 4) (ret := (some .int)) (by decide) rfl rfl (by rintro _ _ _ ⟨x, fs, R, r, rfl, rfl, hK⟩; exact Nat.le_of_ble_eq_true rfl) ?_
  intro X av es K hM hE hag hin hnL hsp
  obtain ⟨x, fs, R, r, rfl, rfl, hK⟩ := hsp
  have hf := kX7_owned hM hE hnL
  refine g_with (X := X) 4 [0, 1, 2, 3] (fun μ vs es k n => ∃ i : Nat, μ = 8 - i ∧ i ≤ 8 ∧ vs = [.ref 0, .int x, .int (nI (cnt (fun w => decide (R w = x)) i)), .int (nI i)] ∧ es = rw2 fs R r ∧ k = 0 ∧ n = 0) cut_nil (fun μ hc vs es k n hI => ?_) (fun hc => ?_)
  · obtain ⟨i, rfl, hi, rfl, rfl, rfl, rfl⟩ := hI
    refine g_go hf hc 5 ?_
    refine ⟨fun h => ?_, fun h => ?_⟩
    · have h4 : i = 8 := by
        rw [nI_leI (by decide) (by omega)] at h
        omega
      subst h4
      exact hK
    · have h4 : i < 8 := by
        rw [nI_leI (by decide) (by omega)] at h
        omega
      refine ⟨i, by rw [nI_add, Nat.zero_add], by omega, ?_⟩
      refine ⟨fun h5 => ?_, fun h5 => ?_⟩
      · have h6 : ¬ decide (R i = x) = true := by simpa using h5
        exact ⟨8 - (i + 1), by omega, i + 1, rfl, by omega, by rw [cnt_f h6, nI_add, nI_add]; rfl, rfl, rfl, rfl⟩
      · have h6 : decide (R i = x) = true := by simpa using h5
        exact ⟨8 - (i + 1), by omega, i + 1, rfl, by omega, by rw [cnt_t h6, nI_add, nI_add], rfl, rfl, rfl⟩
  · refine wr_ok hf hc 5 0 _ _ _ _ _ ?_
    exact ⟨8, 0, rfl, by omega, rfl, rfl, rfl, rfl⟩
def sX7_gained : gS := fun av es K => ∃ x y t w fs R r, av = [.ref 0, .int x, .int y] ∧ x = nI t ∧ y = nI w ∧ t < 4 ∧ w ≤ 8 ∧ es = rw2 fs R r ∧ K (some (.int (sumI (fun p => gaR R (t * 8 + p)) w))) es
def rmX7_gained : Room := { frames := 0, cells := 0, slots := 0, locals := 0 }
def pX7_gained (K : gK) : List (Nat × gO) := [(0, oConst (nI 0)), (1, oFR 2 (oIStore 5 3)), (2, oConst (nI 0)), (3, oFR 2 (oIStore 5 4)), (5, oFR 2 (oILoad 4)), (7, oILoad 2), (8, oICmp_ge 36), (11, oILoad 3), (12, oALoad 0), (13, oGet 7 0), (16, oConst (nI 152)), (19, oConst (nI 8)), (21, oILoad 1), (22, oMul), (23, oAdd), (24, oILoad 4), (26, oAdd), (27, oIALd 0), (28, oAdd), (29, oIStore 5 3), (30, oFR 2 (oIInc 5 4 (nI 1))), (33, oGoto 5), (36, oFR 2 (oILoad 3)), (37, oRet K 0 0)]
set_option maxRecDepth 100000 in
theorem kX7_gained {X : gX} {l : Launch} (hM : gM X l cX7_gained RX7 wsX7_gained rmX7_gained) {K : gK} (hE : gR X K 0 0 (some .int)) (hnL : X.2.2.2.2.2.2.2.2.2.2.2.2.2.2.2.2 = 5) : okL X (pX7_gained K) := by
  obtain ⟨p, l1, e, R, s, m, args, below, meth, c, D, cA, A, ag, ad0, Q, nL⟩ := X
  cases hnL
  refine ⟨ok_iconst hM dX7_gained_0 rfl,
    ok_FR (ok_istore_n hM 3 dX7_gained_1 rfl),
    ok_iconst hM dX7_gained_2 rfl,
    ok_FR (ok_istore hM 4 dX7_gained_3),
    ok_FR (ok_iload hM 4 dX7_gained_5),
    ok_iload_n hM 2 dX7_gained_7 rfl,
    ok_icmp_ge hM 36 dX7_gained_8 (by decide),
    ok_iload_n hM 3 dX7_gained_11 rfl,
    ok_aload_n hM 0 dX7_gained_12 rfl,
    ok_get (C := RX7) (T := TX7) (Nf := 11) hM (fun _ h => List.mem_cons_of_mem _ (List.mem_append_right _ h)) rfl 0 (by decide) (List.mem_of_getElem? (i := 1) rfl) rfl dX7_gained_13,
    ok_sipush hM dX7_gained_16 rfl,
    ok_bipush hM dX7_gained_19 rfl,
    ok_iload_n hM 1 dX7_gained_21 rfl,
    ok_imul hM dX7_gained_22,
    ok_iadd hM dX7_gained_23,
    ok_iload hM 4 dX7_gained_24,
    ok_iadd hM dX7_gained_26,
    ok_iald hM dX7_gained_27,
    ok_iadd hM dX7_gained_28,
    ok_istore_n hM 3 dX7_gained_29 rfl,
    ok_FR (ok_iinc hM 4 dX7_gained_30 rfl),
    ok_goto hM 5 dX7_gained_33 (by decide),
    ok_FR (ok_iload_n hM 3 dX7_gained_36 rfl),
    ok_ret hM hE dX7_gained_37,
    trivial⟩
set_option maxRecDepth 100000 in
theorem ctX7_gained (l : Launch) : Ct l yX7_gained wsX7_gained rmX7_gained 0 0 false sX7_gained := by
  refine ct_of (own := RX7) (cc := cX7_gained) (maxL := 5) (ret := (some .int)) (by decide) rfl rfl (by rintro _ _ _ ⟨x, y, t, w, fs, R, r, rfl, rfl, rfl, ht, hw, rfl, hK⟩; exact Nat.le_of_ble_eq_true rfl) ?_
  intro X av es K hM hE hag hin hnL hsp
  obtain ⟨x, y, t, w, fs, R, r, rfl, rfl, rfl, ht, hw, rfl, hK⟩ := hsp
  have hf := kX7_gained hM hE hnL
  refine g_with (X := X) 5 [0, 1, 2, 3, 4] (fun μ vs es k n => ∃ i : Nat, μ = 8 - i ∧ i ≤ w ∧ vs = [.ref 0, .int (nI t), .int (nI w), .int (sumI (fun p => gaR R (t * 8 + p)) i), .int (nI i)] ∧ es = rw2 fs R r ∧ k = 0 ∧ n = 0) cut_nil (fun μ hc vs es k n hI => ?_) (fun hc => ?_)
  · obtain ⟨i, rfl, hi, rfl, rfl, rfl, rfl⟩ := hI
    refine g_go hf hc 5 ?_
    refine ⟨fun h => ?_, fun h => ?_⟩
    · have h4 : i = w := by
        rw [nI_leI (by omega) (by omega)] at h
        omega
      subst h4
      exact hK
    · have h4 : i < w := by
        rw [nI_leI (by omega) (by omega)] at h
        omega
      refine ⟨152 + (t * 8 + i), by rw [pk_mul, nI_add, nI_add, Nat.mul_comm, Nat.add_assoc], by omega, ?_⟩
      exact ⟨8 - (i + 1), by omega, i + 1, rfl, by omega, by rw [nI_add]; rfl, rfl, rfl, rfl⟩
  · refine wr_ok hf hc 5 0 _ _ _ _ _ ?_
    exact ⟨8, 0, rfl, by omega, rfl, rfl, rfl, rfl⟩
def sX7_find : gS := fun av es K => ∃ x y t a fs R r, av = [.ref 0, .int x, .int y] ∧ x = nI t ∧ y = nI a ∧ t < 4 ∧ a < 256 ∧ es = rw2 fs R r ∧ K (some (.int (plV (a % 4 * 8) (fF (hdR R) (nI t * nI 256 + nI a) (a % 4 * 8))))) es
def rmX7_find : Room := { frames := 0, cells := 0, slots := 0, locals := 0 }
def pX7_find (K : gK) : List (Nat × gO) := [(0, oConst (nI 8)), (2, oFR 2 (oILoad 2)), (3, oConst (nI 4)), (4, oRem), (5, oMul), (6, oIStore 5 3), (7, oFR 2 (oILoad 3)), (8, oIStore 5 4), (10, oFR 2 (oILoad 4)), (12, oILoad 3), (13, oConst (nI 8)), (15, oAdd), (16, oICmp_ge 48), (19, oALoad 0), (20, oGet 7 0), (23, oConst (nI 8)), (25, oILoad 4), (27, oAdd), (28, oIALd 0), (29, oConst (nI 256)), (32, oILoad 1), (33, oMul), (34, oILoad 2), (35, oAdd), (36, oICmp_ne 42), (39, oILoad 4), (41, oRet K 0 0), (42, oIInc 5 4 (nI 1)), (45, oGoto 10), (48, oConst (-1)), (49, oFR 2 (oRet K 0 0))]
set_option maxRecDepth 100000 in
theorem kX7_find {X : gX} {l : Launch} (hM : gM X l cX7_find RX7 wsX7_find rmX7_find) {K : gK} (hE : gR X K 0 0 (some .int)) (hnL : X.2.2.2.2.2.2.2.2.2.2.2.2.2.2.2.2 = 5) : okL X (pX7_find K) := by
  obtain ⟨p, l1, e, R, s, m, args, below, meth, c, D, cA, A, ag, ad0, Q, nL⟩ := X
  cases hnL
  refine ⟨ok_bipush hM dX7_find_0 rfl,
    ok_FR (ok_iload_n hM 2 dX7_find_2 rfl),
    ok_iconst hM dX7_find_3 rfl,
    ok_irem hM dX7_find_4,
    ok_imul hM dX7_find_5,
    ok_istore_n hM 3 dX7_find_6 rfl,
    ok_FR (ok_iload_n hM 3 dX7_find_7 rfl),
    ok_istore hM 4 dX7_find_8,
    ok_FR (ok_iload hM 4 dX7_find_10),
    ok_iload_n hM 3 dX7_find_12 rfl,
    ok_bipush hM dX7_find_13 rfl,
    ok_iadd hM dX7_find_15,
    ok_icmp_ge hM 48 dX7_find_16 (by decide),
    ok_aload_n hM 0 dX7_find_19 rfl,
    ok_get (C := RX7) (T := TX7) (Nf := 11) hM (fun _ h => List.mem_cons_of_mem _ (List.mem_append_right _ h)) rfl 0 (by decide) (List.mem_of_getElem? (i := 1) rfl) rfl dX7_find_20,
    ok_bipush hM dX7_find_23 rfl,
    ok_iload hM 4 dX7_find_25,
    ok_iadd hM dX7_find_27,
    ok_iald hM dX7_find_28,
    ok_sipush hM dX7_find_29 rfl,
    ok_iload_n hM 1 dX7_find_32 rfl,
    ok_imul hM dX7_find_33,
    ok_iload_n hM 2 dX7_find_34 rfl,
    ok_iadd hM dX7_find_35,
    ok_icmp_ne hM 42 dX7_find_36 (by decide),
    ok_iload hM 4 dX7_find_39,
    ok_ret hM hE dX7_find_41,
    ok_iinc hM 4 dX7_find_42 rfl,
    ok_goto hM 10 dX7_find_45 (by decide),
    ok_iconst hM dX7_find_48 rfl,
    ok_FR (ok_ret hM hE dX7_find_49),
    trivial⟩
set_option maxRecDepth 100000 in
theorem ctX7_find (l : Launch) : Ct l yX7_find wsX7_find rmX7_find 0 0 false sX7_find := by
  refine ct_of (own := RX7) (cc := cX7_find) (maxL := 5) (ret := (some .int)) (by decide) rfl rfl (by rintro _ _ _ ⟨x, y, t, a, fs, R, r, rfl, rfl, rfl, ht, ha, rfl, hK⟩; exact Nat.le_of_ble_eq_true rfl) ?_
  intro X av es K hM hE hag hin hnL hsp
  obtain ⟨x, y, t, a, fs, R, r, rfl, rfl, rfl, ht, ha, rfl, hK⟩ := hsp
  have hf := kX7_find hM hE hnL
  have e0 : nI 256 * nI t + nI a = nI t * nI 256 + nI a := by rw [pk_mul, pk_mul, Nat.mul_comm]
  refine g_with (X := X) 10 [0, 1, 2, 3, 4] (fun μ vs es k n => ∃ i : Nat, μ = 8 - i ∧ i ≤ 8 ∧ (∀ j, j < i → ¬ hdR R (a % 4 * 8 + j) = nI t * nI 256 + nI a) ∧ vs = [.ref 0, .int (nI t), .int (nI a), .int (nI (a % 4 * 8)), .int (nI (a % 4 * 8 + i))] ∧ es = rw2 fs R r ∧ k = 0 ∧ n = 0) cut_nil (fun μ hc vs es k n hI => ?_) (fun hc => ?_)
  · obtain ⟨i, rfl, hi, hno, rfl, rfl, rfl, rfl⟩ := hI
    refine g_go hf hc 5 ?_
    refine ⟨fun h => ?_, fun h => ?_⟩
    · have : i = 8 := by
        rw [nI_add, nI_leI (by omega) (by omega)] at h
        omega
      subst this
      have e : fF (hdR R) (nI t * nI 256 + nI a) (a % 4 * 8) = 8 := fst1_none (fun j hj => by simpa using hno j hj)
      rw [e] at hK
      exact hK
    · rw [nI_add, nI_leI (by omega) (by omega)] at h
      refine ⟨8 + (a % 4 * 8 + i), nI_add _ _, by omega, ?_⟩
      refine ⟨fun h2 => ?_, fun h2 => ?_⟩
      · refine ⟨8 - (i + 1), by omega, i + 1, rfl, by omega, fun j hj => ?_, by rw [nI_add, Nat.add_assoc], rfl, rfl, rfl⟩
        by_cases hj2 : j = i
        · rw [hj2, ← e0]
          exact h2
        · exact hno j (by omega)
      · rw [e0] at h2
        have e : fF (hdR R) (nI t * nI 256 + nI a) (a % 4 * 8) = i := fst1_eq (by simpa using h2) (fun j hj => by simpa using hno j hj) (by omega)
        rw [e, plV, if_pos (by omega)] at hK
        exact hK
  · refine wr_ok hf hc 5 0 _ _ _ _ _ ?_
    refine ⟨by decide, ?_⟩
    have e1 : nI 8 * (nI a - nI a / nI 4 * nI 4) = nI (a % 4 * 8) := by rw [rem4 (by omega), pk_mul, Nat.mul_comm]
    exact ⟨8, 0, rfl, by omega, fun j hj => absurd hj (by omega), by rw [e1]; rfl, rfl, rfl, rfl⟩
def sX7_wouldBe : gS := fun av es K => ∃ x y t a fs R r, av = [.ref 0, .int x, .int y] ∧ x = nI t ∧ y = nI a ∧ t < 4 ∧ a < 256 ∧ es = rw2 fs R r ∧ K (some (.int (nI (rsl R (hdR R) (nI t) a)))) es
def rmX7_wouldBe : Room := { frames := 1, cells := 0, slots := 0, locals := 24 }
def pX7_wouldBe (K : gK) : List (Nat × gO) := [(0, oFR 2 (oALoad 0)), (1, oILoad 1), (2, oILoad 2), (3, oCallV0 0 0 7 2 sX7_find), (6, oConst (-1)), (7, oFR 2 (oICmp_eq 14)), (10, oConst (nI 1)), (11, oGoto 27), (14, oALoad 0), (15, oILoad 1), (16, oCallV0 0 0 7 1 sX7_owned), (19, oFR 2 (oIf_ne 26)), (22, oConst (nI 2)), (23, oGoto 27), (26, oConst (nI 0)), (27, oRet K 0 0)]
set_option maxRecDepth 100000 in
theorem kX7_wouldBe {X : gX} {l : Launch} (hM : gM X l cX7_wouldBe RX7 wsX7_wouldBe rmX7_wouldBe) {K : gK} (hE : gR X K 0 0 (some .int)) (hnL : X.2.2.2.2.2.2.2.2.2.2.2.2.2.2.2.2 = 3) : okL X (pX7_wouldBe K) := by
  obtain ⟨p, l1, e, R, s, m, args, below, meth, c, D, cA, A, ag, ad0, Q, nL⟩ := X
  cases hnL
  refine ⟨ok_FR (ok_aload_n hM 0 dX7_wouldBe_0 rfl),
    ok_iload_n hM 1 dX7_wouldBe_1 rfl,
    ok_iload_n hM 2 dX7_wouldBe_2 rfl,
    ok_callV0 hM (ctX7_find l) rfl gX7_wouldBe_X7_find rfl rfl rfl (by decide +kernel) (by decide) dX7_wouldBe_3,
    ok_iconst hM dX7_wouldBe_6 rfl,
    ok_FR (ok_icmp_eq hM 14 dX7_wouldBe_7 (by decide)),
    ok_iconst hM dX7_wouldBe_10 rfl,
    ok_goto hM 27 dX7_wouldBe_11 (by decide),
    ok_aload_n hM 0 dX7_wouldBe_14 rfl,
    ok_iload_n hM 1 dX7_wouldBe_15 rfl,
    ok_callV0 hM (ctX7_owned l) rfl gX7_wouldBe_X7_owned rfl rfl rfl (by decide +kernel) (by decide) dX7_wouldBe_16,
    ok_FR (ok_if_ne hM 26 dX7_wouldBe_19 (by decide)),
    ok_iconst hM dX7_wouldBe_22 rfl,
    ok_goto hM 27 dX7_wouldBe_23 (by decide),
    ok_iconst hM dX7_wouldBe_26 rfl,
    ok_ret hM hE dX7_wouldBe_27,
    trivial⟩
set_option maxRecDepth 100000 in
theorem ctX7_wouldBe (l : Launch) : Ct l yX7_wouldBe wsX7_wouldBe rmX7_wouldBe 0 0 false sX7_wouldBe := by
  refine ct_of (own := RX7) (cc := cX7_wouldBe) (maxL := 3) (ret := (some .int)) (by decide) rfl rfl (by rintro _ _ _ ⟨x, y, t, a, fs, R, r, rfl, rfl, rfl, ht, ha, rfl, hK⟩; exact Nat.le_of_ble_eq_true rfl) ?_
  intro X av es K hM hE hag hin hnL hsp
  obtain ⟨x, y, t, a, fs, R, r, rfl, rfl, rfl, ht, ha, rfl, hK⟩ := hsp
  have hf := kX7_wouldBe hM hE hnL
  have hno : plV (a % 4 * 8) (fF (hdR R) (nI t * nI 256 + nI a) (a % 4 * 8)) = -1 ↔ ¬ fF (hdR R) (nI t * nI 256 + nI a) (a % 4 * 8) < 8 := plV_ne (by have := fF_le (hdR R) (nI t * nI 256 + nI a) (a % 4 * 8); omega)
  unfold rsl at hK
  refine wr_ok hf cut_nil 5 0 _ _ _ _ _ ?_
  refine ⟨_, _, t, a, fs, R, r, rfl, rfl, rfl, ht, ha, rfl, ?_⟩
  refine ⟨fun h1 => ?_, fun h1 => ?_⟩
  · rw [if_neg (hno.mp h1)] at hK
    refine ⟨nI t, fs, R, r, rfl, rfl, ?_⟩
    have h8 : fOwn R (nI t) ≤ 8 := cnt_le _ 8
    refine ⟨fun h2 => ?_, fun h2 => ?_⟩
    · have h3 : ¬ fOwn R (nI t) = 0 := fun q => h2 (by rw [q]; rfl)
      rw [if_neg h3] at hK
      exact hK
    · have h3 : fOwn R (nI t) = 0 := (nI_eq (by omega) (by decide)).mp (show nI (fOwn R (nI t)) = nI 0 from h2)
      rw [if_pos h3] at hK
      exact hK
  · rw [if_pos (Classical.byContradiction (fun q => h1 (hno.mpr q)))] at hK
    exact hK
end MM1

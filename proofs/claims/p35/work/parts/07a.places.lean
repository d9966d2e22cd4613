/-! Places: contracts. -/
section MP
theorem g_with {X : gX} {cs : List gC} {P : Prop} (head : Nat) (keep : List Nat) (Inv : Nat → List Value → List gE → Nat → Nat → Prop) (hc : cutOK X cs)
    (step : ∀ μ : Nat, cutOK X ((head, keep, fun vs es k n => ∃ ν, ν < μ ∧ Inv ν vs es k n) :: cs) → ∀ vs es k n, Inv μ vs es k n → G X head (keep.zip vs) [] es k n) (kk : cutOK X ((head, keep, fun vs es k n => ∃ ν, Inv ν vs es k n) :: cs) → P) : P := kk (g_loop head keep Inv hc step)
def cnt (p : Nat → Bool) : Nat → Nat
  | 0 => 0
  | n + 1 => if p n = true then cnt p n + 1 else cnt p n
theorem cnt_t {p : Nat → Bool} {n : Nat} (h : p n = true) : cnt p (n + 1) = cnt p n + 1 := if_pos h
theorem cnt_f {p : Nat → Bool} {n : Nat} (h : ¬ p n = true) : cnt p (n + 1) = cnt p n := if_neg h
theorem cnt_le (p : Nat → Bool) : ∀ n, cnt p n ≤ n
  | 0 => Nat.le_refl _
  | n + 1 => by
    have := cnt_le p n
    unfold cnt
    split <;> omega
theorem cnt_cong {p q : Nat → Bool} : ∀ {n : Nat}, (∀ j, j < n → p j = q j) → cnt p n = cnt q n
  | 0, _ => rfl
  | n + 1, h => by
    unfold cnt
    rw [h n (by omega), cnt_cong (fun j hj => h j (by omega))]
def sumN (f : Nat → Nat) : Nat → Nat
  | 0 => 0
  | n + 1 => sumN f n + f n
theorem sumN_cong {f g : Nat → Nat} : ∀ {n : Nat}, (∀ j, j < n → f j = g j) → sumN f n = sumN g n
  | 0, _ => rfl
  | n + 1, h => by
    unfold sumN
    rw [h n (by omega), sumN_cong (fun j hj => h j (by omega))]
/-- the first below n, else n -/
def fst1 (p : Nat → Bool) : Nat → Nat
  | 0 => 0
  | n + 1 => if fst1 p n < n then fst1 p n else if p n = true then n else n + 1
theorem fst1_le (p : Nat → Bool) : ∀ n, fst1 p n ≤ n
  | 0 => Nat.le_refl _
  | n + 1 => by
    have := fst1_le p n
    unfold fst1
    split
    · omega
    · split <;> omega
theorem fst1_none {p : Nat → Bool} : ∀ {n : Nat}, (∀ j, j < n → ¬ p j = true) → fst1 p n = n
  | 0, _ => rfl
  | n + 1, h => by
    have h1 := fst1_none (p := p) (n := n) (fun j hj => h j (by omega))
    unfold fst1
    rw [h1, if_neg (by omega), if_neg (h n (by omega))]
theorem fst1_eq {p : Nat → Bool} {i : Nat} (hi : p i = true) (h : ∀ j, j < i → ¬ p j = true) : ∀ {n : Nat}, i < n → fst1 p n = i
  | 0, hn => absurd hn (by omega)
  | n + 1, hn => by
    by_cases hin : i < n
    · have h1 := fst1_eq hi h hin
      unfold fst1
      rw [h1, if_pos hin]
    · have : i = n := by omega
      subst this
      have h1 := fst1_none (p := p) (n := i) h
      unfold fst1
      rw [h1, if_neg (by omega), if_pos hi]
theorem fst1_yes {p : Nat → Bool} : ∀ {n : Nat}, fst1 p n < n → p (fst1 p n) = true
  | 0, h => absurd h (Nat.not_lt_zero _)
  | n + 1, h => by
    unfold fst1 at h ⊢
    split
    · rename_i h1
      exact fst1_yes h1
    · rename_i h1
      rw [if_neg h1] at h
      split
      · rename_i h2
        exact h2
      · rename_i h2
        rw [if_neg h2] at h
        omega
theorem fst1_no {p : Nat → Bool} : ∀ {n j : Nat}, j < fst1 p n → ¬ p j = true
  | 0, j, h => absurd h (Nat.not_lt_zero _)
  | n + 1, j, h => by
    unfold fst1 at h
    split at h
    · exact fst1_no h
    · rename_i h1
      have hn : fst1 p n = n := by have := fst1_le p n; omega
      split at h
      · exact fst1_no (p := p) (n := n) (by omega)
      · rename_i h2
        by_cases hj : j < n
        · exact fst1_no (p := p) (n := n) (by omega)
        · have : j = n := by omega
          subst this
          exact h2
theorem fst1_cong {p q : Nat → Bool} : ∀ {n : Nat}, (∀ j, j < n → p j = q j) → fst1 p n = fst1 q n
  | 0, _ => rfl
  | n + 1, h => by
    unfold fst1
    rw [h n (by omega), fst1_cong (fun j hj => h j (by omega))]
def bI : Bool → Int32
  | true => nI 1
  | false => nI 0
theorem bI_ok (b : Bool) : bI b = 0 ∨ bI b = 1 := by cases b <;> decide
theorem bI_0 {b : Bool} : bI b = 0 ↔ b = false := by cases b <;> decide
-- the cells of a Places
abbrev plA (o : Nat) (ow hd st : Nat → Int32) : List gE := [.inr (3, [.ref (o + 1), .ref (o + 2), .ref (o + 3)]), .inl (0, 8, .inl ow), .inl (0, 32, .inl hd), .inl (0, 32, .inl st)]
abbrev plE (ow hd st : Nat → Int32) : List gE := plA 0 ow hd st
def fOwn (ow : Nat → Int32) (t : Int32) : Nat := cnt (fun w => decide (ow w = t)) 8
def sX3_ownedWays : gS := fun av es K => ∃ t ow hd st, av = [.ref 0, .int t] ∧ es = plE ow hd st ∧ K (some (.int (nI (fOwn ow t)))) es
def rmX3_ownedWays : Room := { frames := 0, cells := 0, slots := 0, locals := 0 }
def pX3_ownedWays (K : gK) : List (Nat × gO) := [(0, oConst (nI 0)), (1, oF (oIStore 4 2)), (2, oConst (nI 0)), (3, oF (oIStore 4 3)), (4, oF (oILoad 3)), (5, oConst (nI 8)), (7, oICmp_ge 29), (10, oALoad 0), (11, oGet 3 0), (14, oILoad 3), (15, oIALd 0), (16, oILoad 1), (17, oICmp_ne 23), (20, oIInc 4 2 (nI 1)), (23, oF (oIInc 4 3 (nI 1))), (26, oGoto 4), (29, oF (oILoad 2)), (30, oRet K 0 0)]
set_option maxRecDepth 100000 in
theorem kX3_ownedWays {X : gX} {l : Launch} (hM : gM X l cX3_ownedWays RX3 wsX3_ownedWays rmX3_ownedWays) {K : gK} (hE : gR X K 0 0 (some .int)) (hnL : X.2.2.2.2.2.2.2.2.2.2.2.2.2.2.2.2 = 4) : okL X (pX3_ownedWays K) := by
  obtain ⟨p, l1, e, R, s, m, args, below, meth, c, D, cA, A, ag, ad0, Q, nL⟩ := X
  cases hnL
  refine ⟨ok_iconst hM dX3_ownedWays_0 rfl,
    ok_F (ok_istore_n hM 2 dX3_ownedWays_1 rfl),
    ok_iconst hM dX3_ownedWays_2 rfl,
    ok_F (ok_istore_n hM 3 dX3_ownedWays_3 rfl),
    ok_F (ok_iload_n hM 3 dX3_ownedWays_4 rfl),
    ok_bipush hM dX3_ownedWays_5 rfl,
    ok_icmp_ge hM 29 dX3_ownedWays_7 (by decide),
    ok_aload_n hM 0 dX3_ownedWays_10 rfl,
    ok_get (C := RX3) (T := TX3) (Nf := 3) hM (fun _ h => List.mem_cons_of_mem _ (List.mem_append_right _ h)) rfl 0 (by decide) (List.mem_of_getElem? (i := 1) rfl) rfl dX3_ownedWays_11,
    ok_iload_n hM 3 dX3_ownedWays_14 rfl,
    ok_iald hM dX3_ownedWays_15,
    ok_iload_n hM 1 dX3_ownedWays_16 rfl,
    ok_icmp_ne hM 23 dX3_ownedWays_17 (by decide),
    ok_iinc hM 2 dX3_ownedWays_20 rfl,
    ok_F (ok_iinc hM 3 dX3_ownedWays_23 rfl),
    ok_goto hM 4 dX3_ownedWays_26 (by decide),
    ok_F (ok_iload_n hM 2 dX3_ownedWays_29 rfl),
    ok_ret hM hE dX3_ownedWays_30,
    trivial⟩
theorem ctX3_ownedWays (l : Launch) : Ct l yX3_ownedWays wsX3_ownedWays rmX3_ownedWays 0 0 false sX3_ownedWays := by
  refine ct_of (own := RX3) (cc := cX3_ownedWays) (maxL := 4) (ret := some .int) (by decide) rfl rfl (by rintro _ _ _ ⟨t, ow, hd, st, rfl, -⟩; exact Nat.le_of_ble_eq_true rfl) ?_
  intro X av es K hM hE _ _ hnL hsp
  obtain ⟨t, ow, hd, st, rfl, rfl, hK⟩ := hsp
  have hf := kX3_ownedWays hM hE hnL
  refine g_with (X := X) 4 [0, 1, 2, 3] (fun μ vs es k n => ∃ i : Nat, μ = 8 - i ∧ i ≤ 8 ∧ vs = [.ref 0, .int t, .int (nI (cnt (fun w => decide (ow w = t)) i)), .int (nI i)] ∧ es = plE ow hd st ∧ k = 0 ∧ n = 0) cut_nil (fun μ hc vs es k n hI => ?_) (fun hc => ?_)
  · obtain ⟨i, rfl, hi, rfl, rfl, rfl, rfl⟩ := hI
    refine g_go hf hc 5 ?_
    refine ⟨fun h => ?_, fun h => ?_⟩
    · have : i = 8 := by
        rw [nI_leI (by decide) (by omega)] at h
        omega
      subst this
      exact hK
    · rw [nI_leI (by decide) (by omega)] at h
      refine ⟨i, rfl, by omega, ?_⟩
      refine ⟨fun h2 => ?_, fun h2 => ?_⟩
      · exact ⟨8 - (i + 1), by omega, i + 1, rfl, by omega, by rw [nI_add, cnt_f (by simpa using h2)], rfl, rfl, rfl⟩
      · exact ⟨8 - (i + 1), by omega, i + 1, rfl, by omega, by rw [nI_add, nI_add, cnt_t (by simpa using h2)], rfl, rfl, rfl⟩
  · refine wr_ok hf hc 5 0 _ _ _ _ _ ?_
    exact ⟨8, 0, rfl, by omega, rfl, rfl, rfl, rfl⟩
theorem rem4 {a : Nat} (h : a < 256) : nI a - nI a / nI 4 * nI 4 = nI (a % 4) := pk_rem (by omega) (by decide) (by decide)
theorem first4 {a : Nat} (h : a < 256) : (nI a - nI a / nI 4 * nI 4) * nI 8 = nI (a % 4 * 8) := by rw [rem4 h, pk_mul]
def plV (fs i : Nat) : Int32 := if i < 8 then nI (fs + i) else -1
def fF (hd : Nat → Int32) (x : Int32) (fs : Nat) : Nat := fst1 (fun w => decide (hd (fs + w) = x)) 8
def sX3_placeOf : gS := fun av es K => ∃ t x a ow hd st, av = [.ref 0, .int t, .int x] ∧ x = nI a ∧ a < 256 ∧ es = plE ow hd st ∧ K (some (.int (plV (a % 4 * 8) (fF hd (t * nI 256 + x) (a % 4 * 8))))) es
def rmX3_placeOf : Room := { frames := 0, cells := 0, slots := 0, locals := 0 }
def pX3_placeOf (K : gK) : List (Nat × gO) := [(0, oF (oILoad 2)), (1, oConst (nI 4)), (2, oRem), (3, oConst (nI 8)), (5, oMul), (6, oIStore 5 3), (7, oConst (nI 0)), (8, oF (oIStore 5 4)), (10, oF (oILoad 4)), (12, oConst (nI 8)), (14, oICmp_ge 47), (17, oALoad 0), (18, oGet 3 1), (21, oILoad 3), (22, oILoad 4), (24, oAdd), (25, oIALd 0), (26, oILoad 1), (27, oConst (nI 256)), (30, oMul), (31, oILoad 2), (32, oAdd), (33, oICmp_ne 41), (36, oILoad 3), (37, oILoad 4), (39, oAdd), (40, oRet K 0 0), (41, oIInc 5 4 (nI 1)), (44, oGoto 10), (47, oConst (-1)), (48, oF (oRet K 0 0))]
set_option maxRecDepth 100000 in
theorem kX3_placeOf {X : gX} {l : Launch} (hM : gM X l cX3_placeOf RX3 wsX3_placeOf rmX3_placeOf) {K : gK} (hE : gR X K 0 0 (some .int)) (hnL : X.2.2.2.2.2.2.2.2.2.2.2.2.2.2.2.2 = 5) : okL X (pX3_placeOf K) := by
  obtain ⟨p, l1, e, R, s, m, args, below, meth, c, D, cA, A, ag, ad0, Q, nL⟩ := X
  cases hnL
  refine ⟨ok_F (ok_iload_n hM 2 dX3_placeOf_0 rfl),
    ok_iconst hM dX3_placeOf_1 rfl,
    ok_irem hM dX3_placeOf_2,
    ok_bipush hM dX3_placeOf_3 rfl,
    ok_imul hM dX3_placeOf_5,
    ok_istore_n hM 3 dX3_placeOf_6 rfl,
    ok_iconst hM dX3_placeOf_7 rfl,
    ok_F (ok_istore hM 4 dX3_placeOf_8),
    ok_F (ok_iload hM 4 dX3_placeOf_10),
    ok_bipush hM dX3_placeOf_12 rfl,
    ok_icmp_ge hM 47 dX3_placeOf_14 (by decide),
    ok_aload_n hM 0 dX3_placeOf_17 rfl,
    ok_get (C := RX3) (T := TX3) (Nf := 3) hM (fun _ h => List.mem_cons_of_mem _ (List.mem_append_right _ h)) rfl 1 (by decide) (List.mem_of_getElem? (i := 1) rfl) rfl dX3_placeOf_18,
    ok_iload_n hM 3 dX3_placeOf_21 rfl,
    ok_iload hM 4 dX3_placeOf_22,
    ok_iadd hM dX3_placeOf_24,
    ok_iald hM dX3_placeOf_25,
    ok_iload_n hM 1 dX3_placeOf_26 rfl,
    ok_sipush hM dX3_placeOf_27 rfl,
    ok_imul hM dX3_placeOf_30,
    ok_iload_n hM 2 dX3_placeOf_31 rfl,
    ok_iadd hM dX3_placeOf_32,
    ok_icmp_ne hM 41 dX3_placeOf_33 (by decide),
    ok_iload_n hM 3 dX3_placeOf_36 rfl,
    ok_iload hM 4 dX3_placeOf_37,
    ok_iadd hM dX3_placeOf_39,
    ok_ret hM hE dX3_placeOf_40,
    ok_iinc hM 4 dX3_placeOf_41 rfl,
    ok_goto hM 10 dX3_placeOf_44 (by decide),
    ok_iconst hM dX3_placeOf_47 rfl,
    ok_F (ok_ret hM hE dX3_placeOf_48),
    trivial⟩
theorem ctX3_placeOf (l : Launch) : Ct l yX3_placeOf wsX3_placeOf rmX3_placeOf 0 0 false sX3_placeOf := by
  refine ct_of (own := RX3) (cc := cX3_placeOf) (maxL := 5) (ret := some .int) (by decide) rfl rfl (by rintro _ _ _ ⟨t, x, a, ow, hd, st, rfl, -⟩; exact Nat.le_of_ble_eq_true rfl) ?_
  intro X av es K hM hE _ _ hnL hsp
  obtain ⟨t, x, a, ow, hd, st, rfl, rfl, ha, rfl, hK⟩ := hsp
  have hf := kX3_placeOf hM hE hnL
  refine g_with (X := X) 10 [0, 1, 2, 3, 4] (fun μ vs es k n => ∃ i : Nat, μ = 8 - i ∧ i ≤ 8 ∧ (∀ j, j < i → ¬ hd (a % 4 * 8 + j) = t * nI 256 + nI a) ∧ vs = [.ref 0, .int t, .int (nI a), .int (nI (a % 4 * 8)), .int (nI i)] ∧ es = plE ow hd st ∧ k = 0 ∧ n = 0) cut_nil (fun μ hc vs es k n hI => ?_) (fun hc => ?_)
  · obtain ⟨i, rfl, hi, hno, rfl, rfl, rfl, rfl⟩ := hI
    refine g_go hf hc 5 ?_
    refine ⟨fun h => ?_, fun h => ?_⟩
    · have : i = 8 := by
        rw [nI_leI (by decide) (by omega)] at h
        omega
      subst this
      have e : fF hd (t * nI 256 + nI a) (a % 4 * 8) = 8 := fst1_none (fun j hj => by simpa using hno j hj)
      rw [e] at hK
      exact hK
    · rw [nI_leI (by decide) (by omega)] at h
      refine ⟨a % 4 * 8 + i, nI_add _ _, by omega, ?_⟩
      refine ⟨fun h2 => ?_, fun h2 => ?_⟩
      · refine ⟨8 - (i + 1), by omega, i + 1, rfl, by omega, fun j hj => ?_, by rw [nI_add], rfl, rfl, rfl⟩
        by_cases hj2 : j = i
        · rw [hj2]; exact h2
        · exact hno j (by omega)
      · have e : fF hd (t * nI 256 + nI a) (a % 4 * 8) = i := fst1_eq (by simpa using h2) (fun j hj => by simpa using hno j hj) (by omega)
        rw [e, plV, if_pos (by omega), ← nI_add] at hK
        exact hK
  · refine wr_ok hf hc 5 0 _ _ _ _ _ ?_
    refine ⟨by decide, ?_⟩
    exact ⟨8, 0, rfl, by omega, fun j hj => absurd hj (by omega), by rw [first4 ha], rfl, rfl, rfl⟩
theorem plV_ne {fs i : Nat} (h : fs + i < 2 ^ 31) : plV fs i = -1 ↔ ¬ i < 8 := by
  unfold plV
  split
  · rename_i h1
    refine ⟨fun h2 => ?_, fun h2 => absurd h1 h2⟩
    have : ¬ nI (fs + i) < 0 := nI_pos h
    rw [h2] at this
    exact absurd (by decide) this
  · rename_i h1
    exact ⟨fun _ => h1, fun _ => rfl⟩
theorem fF_le (hd : Nat → Int32) (x : Int32) (fs : Nat) : fF hd x fs ≤ 8 := fst1_le _ _
def rsl (ow hd : Nat → Int32) (t : Int32) (a : Nat) : Nat := if fF hd (t * nI 256 + nI a) (a % 4 * 8) < 8 then 1 else if fOwn ow t = 0 then 2 else 0
def sX3_resultOf : gS := fun av es K => ∃ t x a ow hd st, av = [.ref 0, .int t, .int x] ∧ x = nI a ∧ a < 256 ∧ es = plE ow hd st ∧ K (some (.int (nI (rsl ow hd t a)))) es
def rmX3_resultOf : Room := { frames := 1, cells := 0, slots := 0, locals := 24 }
def pX3_resultOf (K : gK) : List (Nat × gO) := [(0, oF (oALoad 0)), (1, oILoad 1), (2, oILoad 2), (3, oCallV 0 0 3 2 [0,1,2,3] sX3_placeOf), (6, oConst (-1)), (7, oF (oICmp_eq 12)), (10, oConst (nI 1)), (11, oRet K 0 0), (12, oALoad 0), (13, oILoad 1), (14, oCallV 0 0 3 1 [0,1,2,3] sX3_ownedWays), (17, oF (oIf_ne 24)), (20, oConst (nI 2)), (21, oGoto 25), (24, oConst (nI 0)), (25, oRet K 0 0)]
set_option maxRecDepth 100000 in
theorem kX3_resultOf {X : gX} {l : Launch} (hM : gM X l cX3_resultOf RX3 wsX3_resultOf rmX3_resultOf) {K : gK} (hE : gR X K 0 0 (some .int)) (hnL : X.2.2.2.2.2.2.2.2.2.2.2.2.2.2.2.2 = 3) : okL X (pX3_resultOf K) := by
  obtain ⟨p, l1, e, R, s, m, args, below, meth, c, D, cA, A, ag, ad0, Q, nL⟩ := X
  cases hnL
  refine ⟨ok_F (ok_aload_n hM 0 dX3_resultOf_0 rfl),
    ok_iload_n hM 1 dX3_resultOf_1 rfl,
    ok_iload_n hM 2 dX3_resultOf_2 rfl,
    ok_callV hM [0,1,2,3] (ctX3_placeOf l) rfl rfl gX3_resultOf_X3_placeOf rfl rfl rfl (by decide +kernel) (by decide) dX3_resultOf_3,
    ok_iconst hM dX3_resultOf_6 rfl,
    ok_F (ok_icmp_eq hM 12 dX3_resultOf_7 (by decide)),
    ok_iconst hM dX3_resultOf_10 rfl,
    ok_ret hM hE dX3_resultOf_11,
    ok_aload_n hM 0 dX3_resultOf_12 rfl,
    ok_iload_n hM 1 dX3_resultOf_13 rfl,
    ok_callV hM [0,1,2,3] (ctX3_ownedWays l) rfl rfl gX3_resultOf_X3_ownedWays rfl rfl rfl (by decide +kernel) (by decide) dX3_resultOf_14,
    ok_F (ok_if_ne hM 24 dX3_resultOf_17 (by decide)),
    ok_iconst hM dX3_resultOf_20 rfl,
    ok_goto hM 25 dX3_resultOf_21 (by decide),
    ok_iconst hM dX3_resultOf_24 rfl,
    ok_ret hM hE dX3_resultOf_25,
    trivial⟩
theorem ctX3_resultOf (l : Launch) : Ct l yX3_resultOf wsX3_resultOf rmX3_resultOf 0 0 false sX3_resultOf := by
  refine ct_of (own := RX3) (cc := cX3_resultOf) (maxL := 3) (ret := some .int) (by decide) rfl rfl (by rintro _ _ _ ⟨t, x, a, ow, hd, st, rfl, -⟩; exact Nat.le_of_ble_eq_true rfl) ?_
  intro X av es K hM hE _ _ hnL hsp
  obtain ⟨t, x, a, ow, hd, st, rfl, rfl, ha, rfl, hK⟩ := hsp
  have hf := kX3_resultOf hM hE hnL
  refine wr_ok hf cut_nil 5 0 _ _ _ _ _ ?_
  have hle := fF_le hd (t * nI 256 + nI a) (a % 4 * 8)
  refine ⟨t, _, a, ow, hd, st, rfl, rfl, ha, rfl, ?_⟩
  refine ⟨fun h => ?_, fun h => ?_⟩
  · rw [plV_ne (by omega)] at h
    refine ⟨t, ow, hd, st, rfl, rfl, ?_⟩
    unfold rsl at hK
    rw [if_neg h] at hK
    have ho : fOwn ow t ≤ 8 := cnt_le _ _
    refine ⟨fun h2 => ?_, fun h2 => ?_⟩
    · have : ¬ fOwn ow t = 0 := fun q => h2 (by rw [q]; rfl)
      rw [if_neg this] at hK
      exact hK
    · have : fOwn ow t = 0 := (nI_eq (by omega) (by decide)).mp h2
      rw [if_pos this] at hK
      exact hK
  · have h1 : fF hd (t * nI 256 + nI a) (a % 4 * 8) < 8 := Decidable.of_not_not (fun q => h ((plV_ne (by omega)).mpr q))
    unfold rsl at hK
    rw [if_pos h1] at hK
    exact hK
def sX3_renew : gS := fun av es K => ∃ t x a z ow hd st, av = [.ref 0, .int t, .int x, .int z] ∧ x = nI a ∧ a < 256 ∧ es = plE ow hd st ∧ K none (plE ow hd (if fF hd (t * nI 256 + nI a) (a % 4 * 8) < 8 then upd st (a % 4 * 8 + fF hd (t * nI 256 + nI a) (a % 4 * 8)) z else st))
def rmX3_renew : Room := { frames := 1, cells := 0, slots := 0, locals := 24 }
def pX3_renew (K : gK) : List (Nat × gO) := [(0, oF (oALoad 0)), (1, oILoad 1), (2, oILoad 2), (3, oCallV 0 0 3 2 [0,1,2,3] sX3_placeOf), (6, oF (oIStore 5 4)), (8, oF (oILoad 4)), (10, oConst (-1)), (11, oICmp_eq 22), (14, oALoad 0), (15, oGet 3 2), (18, oILoad 4), (20, oILoad 3), (21, oIASt), (22, oF (oRetV K 0 0))]
set_option maxRecDepth 100000 in
theorem kX3_renew {X : gX} {l : Launch} (hM : gM X l cX3_renew RX3 wsX3_renew rmX3_renew) {K : gK} (hE : gR X K 0 0 none) (hnL : X.2.2.2.2.2.2.2.2.2.2.2.2.2.2.2.2 = 5) : okL X (pX3_renew K) := by
  obtain ⟨p, l1, e, R, s, m, args, below, meth, c, D, cA, A, ag, ad0, Q, nL⟩ := X
  cases hnL
  refine ⟨ok_F (ok_aload_n hM 0 dX3_renew_0 rfl),
    ok_iload_n hM 1 dX3_renew_1 rfl,
    ok_iload_n hM 2 dX3_renew_2 rfl,
    ok_callV hM [0,1,2,3] (ctX3_placeOf l) rfl rfl gX3_renew_X3_placeOf rfl rfl rfl (by decide +kernel) (by decide) dX3_renew_3,
    ok_F (ok_istore hM 4 dX3_renew_6),
    ok_F (ok_iload hM 4 dX3_renew_8),
    ok_iconst hM dX3_renew_10 rfl,
    ok_icmp_eq hM 22 dX3_renew_11 (by decide),
    ok_aload_n hM 0 dX3_renew_14 rfl,
    ok_get (C := RX3) (T := TX3) (Nf := 3) hM (fun _ h => List.mem_cons_of_mem _ (List.mem_append_right _ h)) rfl 2 (by decide) (List.mem_of_getElem? (i := 1) rfl) rfl dX3_renew_15,
    ok_iload hM 4 dX3_renew_18,
    ok_iload_n hM 3 dX3_renew_20 rfl,
    ok_iast hM dX3_renew_21,
    ok_F (ok_retV hM hE dX3_renew_22),
    trivial⟩
set_option maxRecDepth 100000 in
theorem ctX3_renew (l : Launch) : Ct l yX3_renew wsX3_renew rmX3_renew 0 0 false sX3_renew := by
  refine ct_of (own := RX3) (cc := cX3_renew) (maxL := 5) (ret := none) (by decide) rfl rfl (by rintro _ _ _ ⟨t, x, a, z, ow, hd, st, rfl, rfl, ha, rfl, hK⟩; exact Nat.le_of_ble_eq_true rfl) ?_
  intro X av es K hM hE hag hin hnL hsp
  obtain ⟨t, x, a, z, ow, hd, st, rfl, rfl, ha, rfl, hK⟩ := hsp
  have hf := kX3_renew hM hE hnL
  refine wr_ok hf cut_nil 5 0 _ _ _ _ _ ?_
  have hle := fF_le hd (t * nI 256 + nI a) (a % 4 * 8)
  refine ⟨t, _, a, ow, hd, st, rfl, rfl, ha, rfl, ?_⟩
  refine ⟨fun h => ?_, fun h => ?_⟩
  · rw [plV_ne (by omega)] at h
    rw [if_neg h] at hK
    exact hK
  · have h1 : fF hd (t * nI 256 + nI a) (a % 4 * 8) < 8 := Decidable.of_not_not (fun q => h ((plV_ne (by omega)).mpr q))
    rw [if_pos h1] at hK
    refine ⟨a % 4 * 8 + fF hd (t * nI 256 + nI a) (a % 4 * 8), if_pos h1, by omega, ?_⟩
    exact hK
def hol (hd : Nat → Int32) (t : Int32) (q : Nat) : Bool := decide (¬ hd q = -1) && decide (hd q / nI 256 = t)
def sX3_holdsLineOf : gS := fun av es K => ∃ t x q ow hd st, av = [.ref 0, .int t, .int x] ∧ x = nI q ∧ q < 32 ∧ es = plE ow hd st ∧ K (some (.int (bI (hol hd t q)))) es
def rmX3_holdsLineOf : Room := { frames := 0, cells := 0, slots := 0, locals := 0 }
def pX3_holdsLineOf (K : gK) : List (Nat × gO) := [(0, oF (oALoad 0)), (1, oGet 3 1), (4, oILoad 2), (5, oIALd 0), (6, oConst (-1)), (7, oICmp_eq 28), (10, oALoad 0), (11, oGet 3 1), (14, oILoad 2), (15, oIALd 0), (16, oConst (nI 256)), (19, oDiv), (20, oILoad 1), (21, oICmp_ne 28), (24, oConst (nI 1)), (25, oGoto 29), (28, oConst (nI 0)), (29, oRetZ K 0 0)]
set_option maxRecDepth 100000 in
theorem kX3_holdsLineOf {X : gX} {l : Launch} (hM : gM X l cX3_holdsLineOf RX3 wsX3_holdsLineOf rmX3_holdsLineOf) {K : gK} (hE : gR X K 0 0 (some .boolean)) (hnL : X.2.2.2.2.2.2.2.2.2.2.2.2.2.2.2.2 = 3) : okL X (pX3_holdsLineOf K) := by
  obtain ⟨p, l1, e, R, s, m, args, below, meth, c, D, cA, A, ag, ad0, Q, nL⟩ := X
  cases hnL
  refine ⟨ok_F (ok_aload_n hM 0 dX3_holdsLineOf_0 rfl),
    ok_get (C := RX3) (T := TX3) (Nf := 3) hM (fun _ h => List.mem_cons_of_mem _ (List.mem_append_right _ h)) rfl 1 (by decide) (List.mem_of_getElem? (i := 1) rfl) rfl dX3_holdsLineOf_1,
    ok_iload_n hM 2 dX3_holdsLineOf_4 rfl,
    ok_iald hM dX3_holdsLineOf_5,
    ok_iconst hM dX3_holdsLineOf_6 rfl,
    ok_icmp_eq hM 28 dX3_holdsLineOf_7 (by decide),
    ok_aload_n hM 0 dX3_holdsLineOf_10 rfl,
    ok_get (C := RX3) (T := TX3) (Nf := 3) hM (fun _ h => List.mem_cons_of_mem _ (List.mem_append_right _ h)) rfl 1 (by decide) (List.mem_of_getElem? (i := 1) rfl) rfl dX3_holdsLineOf_11,
    ok_iload_n hM 2 dX3_holdsLineOf_14 rfl,
    ok_iald hM dX3_holdsLineOf_15,
    ok_sipush hM dX3_holdsLineOf_16 rfl,
    ok_idiv hM dX3_holdsLineOf_19,
    ok_iload_n hM 1 dX3_holdsLineOf_20 rfl,
    ok_icmp_ne hM 28 dX3_holdsLineOf_21 (by decide),
    ok_iconst hM dX3_holdsLineOf_24 rfl,
    ok_goto hM 29 dX3_holdsLineOf_25 (by decide),
    ok_iconst hM dX3_holdsLineOf_28 rfl,
    ok_retZ hM hE dX3_holdsLineOf_29,
    trivial⟩
set_option maxRecDepth 100000 in
theorem ctX3_holdsLineOf (l : Launch) : Ct l yX3_holdsLineOf wsX3_holdsLineOf rmX3_holdsLineOf 0 0 false sX3_holdsLineOf := by
  refine ct_of (own := RX3) (cc := cX3_holdsLineOf) (maxL := 3) (ret := (some .boolean)) (by decide) rfl rfl (by rintro _ _ _ ⟨t, x, q, ow, hd, st, rfl, rfl, hq, rfl, hK⟩; exact Nat.le_of_ble_eq_true rfl) ?_
  intro X av es K hM hE hag hin hnL hsp
  obtain ⟨t, x, q, ow, hd, st, rfl, rfl, hq, rfl, hK⟩ := hsp
  have hf := kX3_holdsLineOf hM hE hnL
  refine wr_ok hf cut_nil 5 0 _ _ _ _ _ ?_
  refine ⟨q, rfl, hq, ?_⟩
  refine ⟨fun h => ?_, fun h => ?_⟩
  · have e : hol hd t q = false := by simp [hol, h]
    rw [e] at hK
    exact ⟨by decide, hK⟩
  · refine ⟨q, rfl, hq, ?_⟩
    refine ⟨by decide, ?_⟩
    refine ⟨fun h2 => ?_, fun h2 => ?_⟩
    · have e : hol hd t q = false := by simp [hol, h2]
      rw [e] at hK
      exact ⟨by decide, hK⟩
    · have e : hol hd t q = true := by simp [hol, h, h2]
      rw [e] at hK
      exact ⟨by decide, hK⟩
def lnW (hd : Nat → Int32) (t : Int32) (w : Nat) : Nat := cnt (fun s => hol hd t (s * 8 + w)) 4
def sX3_linesInWay : gS := fun av es K => ∃ t x w ow hd st, av = [.ref 0, .int t, .int x] ∧ x = nI w ∧ w < 8 ∧ es = plE ow hd st ∧ K (some (.int (nI (lnW hd t w)))) es
def rmX3_linesInWay : Room := { frames := 1, cells := 0, slots := 0, locals := 22 }
def pX3_linesInWay (K : gK) : List (Nat × gO) := [(0, oConst (nI 0)), (1, oF (oIStore 5 3)), (2, oConst (nI 0)), (3, oF (oIStore 5 4)), (5, oF (oILoad 4)), (7, oConst (nI 4)), (8, oICmp_ge 35), (11, oALoad 0), (12, oILoad 1), (13, oILoad 4), (15, oConst (nI 8)), (17, oMul), (18, oILoad 2), (19, oAdd), (20, oCallV 0 0 3 2 [0,1,2,3] sX3_holdsLineOf), (23, oF (oIf_eq 29)), (26, oIInc 5 3 (nI 1)), (29, oF (oIInc 5 4 (nI 1))), (32, oGoto 5), (35, oF (oILoad 3)), (36, oRet K 0 0)]
set_option maxRecDepth 100000 in
theorem kX3_linesInWay {X : gX} {l : Launch} (hM : gM X l cX3_linesInWay RX3 wsX3_linesInWay rmX3_linesInWay) {K : gK} (hE : gR X K 0 0 (some .int)) (hnL : X.2.2.2.2.2.2.2.2.2.2.2.2.2.2.2.2 = 5) : okL X (pX3_linesInWay K) := by
  obtain ⟨p, l1, e, R, s, m, args, below, meth, c, D, cA, A, ag, ad0, Q, nL⟩ := X
  cases hnL
  refine ⟨ok_iconst hM dX3_linesInWay_0 rfl,
    ok_F (ok_istore_n hM 3 dX3_linesInWay_1 rfl),
    ok_iconst hM dX3_linesInWay_2 rfl,
    ok_F (ok_istore hM 4 dX3_linesInWay_3),
    ok_F (ok_iload hM 4 dX3_linesInWay_5),
    ok_iconst hM dX3_linesInWay_7 rfl,
    ok_icmp_ge hM 35 dX3_linesInWay_8 (by decide),
    ok_aload_n hM 0 dX3_linesInWay_11 rfl,
    ok_iload_n hM 1 dX3_linesInWay_12 rfl,
    ok_iload hM 4 dX3_linesInWay_13,
    ok_bipush hM dX3_linesInWay_15 rfl,
    ok_imul hM dX3_linesInWay_17,
    ok_iload_n hM 2 dX3_linesInWay_18 rfl,
    ok_iadd hM dX3_linesInWay_19,
    ok_callV hM [0,1,2,3] (ctX3_holdsLineOf l) rfl rfl gX3_linesInWay_X3_holdsLineOf rfl rfl rfl (by decide +kernel) (by decide) dX3_linesInWay_20,
    ok_F (ok_if_eq hM 29 dX3_linesInWay_23 (by decide)),
    ok_iinc hM 3 dX3_linesInWay_26 rfl,
    ok_F (ok_iinc hM 4 dX3_linesInWay_29 rfl),
    ok_goto hM 5 dX3_linesInWay_32 (by decide),
    ok_F (ok_iload_n hM 3 dX3_linesInWay_35 rfl),
    ok_ret hM hE dX3_linesInWay_36,
    trivial⟩
set_option maxRecDepth 100000 in
theorem ctX3_linesInWay (l : Launch) : Ct l yX3_linesInWay wsX3_linesInWay rmX3_linesInWay 0 0 false sX3_linesInWay := by
  refine ct_of (own := RX3) (cc := cX3_linesInWay) (maxL := 5) (ret := (some .int)) (by decide) rfl rfl (by rintro _ _ _ ⟨t, x, w, ow, hd, st, rfl, rfl, hw, rfl, hK⟩; exact Nat.le_of_ble_eq_true rfl) ?_
  intro X av es K hM hE hag hin hnL hsp
  obtain ⟨t, x, w, ow, hd, st, rfl, rfl, hw, rfl, hK⟩ := hsp
  have hf := kX3_linesInWay hM hE hnL
  refine g_with (X := X) 5 [0, 1, 2, 3, 4] (fun μ vs es k n => ∃ i : Nat, μ = 4 - i ∧ i ≤ 4 ∧ vs = [.ref 0, .int t, .int (nI w), .int (nI (cnt (fun s => hol hd t (s * 8 + w)) i)), .int (nI i)] ∧ es = plE ow hd st ∧ k = 0 ∧ n = 0) cut_nil (fun μ hc vs es k n hI => ?_) (fun hc => ?_)
  · obtain ⟨i, rfl, hi, rfl, rfl, rfl, rfl⟩ := hI
    refine g_go hf hc 5 ?_
    refine ⟨fun h => ?_, fun h => ?_⟩
    · have : i = 4 := by
        rw [nI_leI (by decide) (by omega)] at h
        omega
      subst this
      exact hK
    · rw [nI_leI (by decide) (by omega)] at h
      refine ⟨t, _, i * 8 + w, ow, hd, st, rfl, by rw [pk_mul, nI_add], by omega, rfl, ?_⟩
      refine ⟨fun h2 => ?_, fun h2 => ?_⟩
      · exact ⟨4 - (i + 1), by omega, i + 1, rfl, by omega, by rw [nI_add, cnt_f (by rw [bI_0] at h2; simpa using h2)], rfl, rfl, rfl⟩
      · exact ⟨4 - (i + 1), by omega, i + 1, rfl, by omega, by rw [nI_add, nI_add, cnt_t (by rw [bI_0] at h2; simpa using h2)], rfl, rfl, rfl⟩
  · refine wr_ok hf hc 5 0 _ _ _ _ _ ?_
    exact ⟨4, 0, rfl, by omega, rfl, rfl, rfl, rfl⟩
theorem lnW_le (hd : Nat → Int32) (t : Int32) (w : Nat) : lnW hd t w ≤ 4 := cnt_le _ _
def sX3_linesOf : gS := fun av es K => ∃ t ow hd st, av = [.ref 0, .int t] ∧ es = plE ow hd st ∧ K (some (.int (nI (sumN (lnW hd t) 8)))) es
def rmX3_linesOf : Room := { frames := 2, cells := 0, slots := 0, locals := 46 }
def pX3_linesOf (K : gK) : List (Nat × gO) := [(0, oConst (nI 0)), (1, oF (oIStore 4 2)), (2, oConst (nI 0)), (3, oF (oIStore 4 3)), (4, oF (oILoad 3)), (5, oConst (nI 8)), (7, oICmp_ge 25), (10, oILoad 2), (11, oALoad 0), (12, oILoad 1), (13, oILoad 3), (14, oCallV 0 0 3 2 [0,1,2,3] sX3_linesInWay), (17, oAdd), (18, oF (oIStore 4 2)), (19, oF (oIInc 4 3 (nI 1))), (22, oGoto 4), (25, oF (oILoad 2)), (26, oRet K 0 0)]
set_option maxRecDepth 100000 in
theorem kX3_linesOf {X : gX} {l : Launch} (hM : gM X l cX3_linesOf RX3 wsX3_linesOf rmX3_linesOf) {K : gK} (hE : gR X K 0 0 (some .int)) (hnL : X.2.2.2.2.2.2.2.2.2.2.2.2.2.2.2.2 = 4) : okL X (pX3_linesOf K) := by
  obtain ⟨p, l1, e, R, s, m, args, below, meth, c, D, cA, A, ag, ad0, Q, nL⟩ := X
  cases hnL
  refine ⟨ok_iconst hM dX3_linesOf_0 rfl,
    ok_F (ok_istore_n hM 2 dX3_linesOf_1 rfl),
    ok_iconst hM dX3_linesOf_2 rfl,
    ok_F (ok_istore_n hM 3 dX3_linesOf_3 rfl),
    ok_F (ok_iload_n hM 3 dX3_linesOf_4 rfl),
    ok_bipush hM dX3_linesOf_5 rfl,
    ok_icmp_ge hM 25 dX3_linesOf_7 (by decide),
    ok_iload_n hM 2 dX3_linesOf_10 rfl,
    ok_aload_n hM 0 dX3_linesOf_11 rfl,
    ok_iload_n hM 1 dX3_linesOf_12 rfl,
    ok_iload_n hM 3 dX3_linesOf_13 rfl,
    ok_callV hM [0,1,2,3] (ctX3_linesInWay l) rfl rfl gX3_linesOf_X3_linesInWay rfl rfl rfl (by decide +kernel) (by decide) dX3_linesOf_14,
    ok_iadd hM dX3_linesOf_17,
    ok_F (ok_istore_n hM 2 dX3_linesOf_18 rfl),
    ok_F (ok_iinc hM 3 dX3_linesOf_19 rfl),
    ok_goto hM 4 dX3_linesOf_22 (by decide),
    ok_F (ok_iload_n hM 2 dX3_linesOf_25 rfl),
    ok_ret hM hE dX3_linesOf_26,
    trivial⟩
set_option maxRecDepth 100000 in
theorem ctX3_linesOf (l : Launch) : Ct l yX3_linesOf wsX3_linesOf rmX3_linesOf 0 0 false sX3_linesOf := by
  refine ct_of (own := RX3) (cc := cX3_linesOf) (maxL := 4) (ret := (some .int)) (by decide) rfl rfl (by rintro _ _ _ ⟨t, ow, hd, st, rfl, rfl, hK⟩; exact Nat.le_of_ble_eq_true rfl) ?_
  intro X av es K hM hE hag hin hnL hsp
  obtain ⟨t, ow, hd, st, rfl, rfl, hK⟩ := hsp
  have hf := kX3_linesOf hM hE hnL
  refine g_with (X := X) 4 [0, 1, 2, 3] (fun μ vs es k n => ∃ i : Nat, μ = 8 - i ∧ i ≤ 8 ∧ vs = [.ref 0, .int t, .int (nI (sumN (lnW hd t) i)), .int (nI i)] ∧ es = plE ow hd st ∧ k = 0 ∧ n = 0) cut_nil (fun μ hc vs es k n hI => ?_) (fun hc => ?_)
  · obtain ⟨i, rfl, hi, rfl, rfl, rfl, rfl⟩ := hI
    refine g_go hf hc 5 ?_
    refine ⟨fun h => ?_, fun h => ?_⟩
    · have : i = 8 := by
        rw [nI_leI (by decide) (by omega)] at h
        omega
      subst this
      exact hK
    · rw [nI_leI (by decide) (by omega)] at h
      refine ⟨t, _, i, ow, hd, st, rfl, rfl, by omega, rfl, ?_⟩
      exact ⟨8 - (i + 1), by omega, i + 1, rfl, by omega, by rw [nI_add, nI_add]; rfl, rfl, rfl, rfl⟩
  · refine wr_ok hf hc 5 0 _ _ _ _ _ ?_
    exact ⟨8, 0, rfl, by omega, rfl, rfl, rfl, rfl⟩
def lnO (ow hd : Nat → Int32) (t : Int32) (w : Nat) : Nat := if ow w = t then lnW hd t w else 0
def sX3_linesInOwnWays : gS := fun av es K => ∃ t ow hd st, av = [.ref 0, .int t] ∧ es = plE ow hd st ∧ K (some (.int (nI (sumN (lnO ow hd t) 8)))) es
def rmX3_linesInOwnWays : Room := { frames := 2, cells := 0, slots := 0, locals := 46 }
def pX3_linesInOwnWays (K : gK) : List (Nat × gO) := [(0, oConst (nI 0)), (1, oF (oIStore 4 2)), (2, oConst (nI 0)), (3, oF (oIStore 4 3)), (4, oF (oILoad 3)), (5, oConst (nI 8)), (7, oICmp_ge 35), (10, oALoad 0), (11, oGet 3 0), (14, oILoad 3), (15, oIALd 0), (16, oILoad 1), (17, oICmp_ne 29), (20, oILoad 2), (21, oALoad 0), (22, oILoad 1), (23, oILoad 3), (24, oCallV 0 0 3 2 [0,1,2,3] sX3_linesInWay), (27, oAdd), (28, oF (oIStore 4 2)), (29, oF (oIInc 4 3 (nI 1))), (32, oGoto 4), (35, oF (oILoad 2)), (36, oRet K 0 0)]
set_option maxRecDepth 100000 in
theorem kX3_linesInOwnWays {X : gX} {l : Launch} (hM : gM X l cX3_linesInOwnWays RX3 wsX3_linesInOwnWays rmX3_linesInOwnWays) {K : gK} (hE : gR X K 0 0 (some .int)) (hnL : X.2.2.2.2.2.2.2.2.2.2.2.2.2.2.2.2 = 4) : okL X (pX3_linesInOwnWays K) := by
  obtain ⟨p, l1, e, R, s, m, args, below, meth, c, D, cA, A, ag, ad0, Q, nL⟩ := X
  cases hnL
  refine ⟨ok_iconst hM dX3_linesInOwnWays_0 rfl,
    ok_F (ok_istore_n hM 2 dX3_linesInOwnWays_1 rfl),
    ok_iconst hM dX3_linesInOwnWays_2 rfl,
    ok_F (ok_istore_n hM 3 dX3_linesInOwnWays_3 rfl),
    ok_F (ok_iload_n hM 3 dX3_linesInOwnWays_4 rfl),
    ok_bipush hM dX3_linesInOwnWays_5 rfl,
    ok_icmp_ge hM 35 dX3_linesInOwnWays_7 (by decide),
    ok_aload_n hM 0 dX3_linesInOwnWays_10 rfl,
    ok_get (C := RX3) (T := TX3) (Nf := 3) hM (fun _ h => List.mem_cons_of_mem _ (List.mem_append_right _ h)) rfl 0 (by decide) (List.mem_of_getElem? (i := 1) rfl) rfl dX3_linesInOwnWays_11,
    ok_iload_n hM 3 dX3_linesInOwnWays_14 rfl,
    ok_iald hM dX3_linesInOwnWays_15,
    ok_iload_n hM 1 dX3_linesInOwnWays_16 rfl,
    ok_icmp_ne hM 29 dX3_linesInOwnWays_17 (by decide),
    ok_iload_n hM 2 dX3_linesInOwnWays_20 rfl,
    ok_aload_n hM 0 dX3_linesInOwnWays_21 rfl,
    ok_iload_n hM 1 dX3_linesInOwnWays_22 rfl,
    ok_iload_n hM 3 dX3_linesInOwnWays_23 rfl,
    ok_callV hM [0,1,2,3] (ctX3_linesInWay l) rfl rfl gX3_linesInOwnWays_X3_linesInWay rfl rfl rfl (by decide +kernel) (by decide) dX3_linesInOwnWays_24,
    ok_iadd hM dX3_linesInOwnWays_27,
    ok_F (ok_istore_n hM 2 dX3_linesInOwnWays_28 rfl),
    ok_F (ok_iinc hM 3 dX3_linesInOwnWays_29 rfl),
    ok_goto hM 4 dX3_linesInOwnWays_32 (by decide),
    ok_F (ok_iload_n hM 2 dX3_linesInOwnWays_35 rfl),
    ok_ret hM hE dX3_linesInOwnWays_36,
    trivial⟩
set_option maxRecDepth 100000 in
theorem ctX3_linesInOwnWays (l : Launch) : Ct l yX3_linesInOwnWays wsX3_linesInOwnWays rmX3_linesInOwnWays 0 0 false sX3_linesInOwnWays := by
  refine ct_of (own := RX3) (cc := cX3_linesInOwnWays) (maxL := 4) (ret := (some .int)) (by decide) rfl rfl (by rintro _ _ _ ⟨t, ow, hd, st, rfl, rfl, hK⟩; exact Nat.le_of_ble_eq_true rfl) ?_
  intro X av es K hM hE hag hin hnL hsp
  obtain ⟨t, ow, hd, st, rfl, rfl, hK⟩ := hsp
  have hf := kX3_linesInOwnWays hM hE hnL
  refine g_with (X := X) 4 [0, 1, 2, 3] (fun μ vs es k n => ∃ i : Nat, μ = 8 - i ∧ i ≤ 8 ∧ vs = [.ref 0, .int t, .int (nI (sumN (lnO ow hd t) i)), .int (nI i)] ∧ es = plE ow hd st ∧ k = 0 ∧ n = 0) cut_nil (fun μ hc vs es k n hI => ?_) (fun hc => ?_)
  · obtain ⟨i, rfl, hi, rfl, rfl, rfl, rfl⟩ := hI
    refine g_go hf hc 5 ?_
    refine ⟨fun h => ?_, fun h => ?_⟩
    · have : i = 8 := by
        rw [nI_leI (by decide) (by omega)] at h
        omega
      subst this
      exact hK
    · rw [nI_leI (by decide) (by omega)] at h
      refine ⟨i, rfl, by omega, ?_⟩
      refine ⟨fun h2 => ?_, fun h2 => ?_⟩
      · exact ⟨8 - (i + 1), by omega, i + 1, rfl, by omega, by rw [nI_add]; simp only [sumN, lnO, if_neg h2, Nat.add_zero], rfl, rfl, rfl⟩
      · refine ⟨t, _, i, ow, hd, st, rfl, rfl, by omega, rfl, ?_⟩
        exact ⟨8 - (i + 1), by omega, i + 1, rfl, by omega, by rw [nI_add, nI_add]; simp only [sumN, lnO, if_pos h2], rfl, rfl, rfl⟩
  · refine wr_ok hf hc 5 0 _ _ _ _ _ ?_
    exact ⟨8, 0, rfl, by omega, rfl, rfl, rfl, rfl⟩
def allN (hd : Nat → Int32) : Nat := sumN (fun t => sumN (lnW hd (nI t)) 8) 4
def rmv (hd : Nat → Int32) (t : Int32) : Nat → Int32 := fun j => if hol hd t j = true then -1 else hd j
def sX3_removeLinesOf : gS := fun av es K => ∃ t ow hd st, av = [.ref 0, .int t] ∧ es = plE ow hd st ∧ K (some (.int (nI (cnt (hol hd t) 32)))) (plE ow (rmv hd t) st)
def rmX3_removeLinesOf : Room := { frames := 1, cells := 0, slots := 0, locals := 22 }
def pX3_removeLinesOf (K : gK) : List (Nat × gO) := [(0, oConst (nI 0)), (1, oF (oIStore 4 2)), (2, oConst (nI 0)), (3, oF (oIStore 4 3)), (4, oF (oILoad 3)), (5, oConst (nI 32)), (7, oICmp_ge 35), (10, oALoad 0), (11, oILoad 1), (12, oILoad 3), (13, oCallV 0 0 3 2 [0,1,2,3] sX3_holdsLineOf), (16, oF (oIf_eq 29)), (19, oALoad 0), (20, oGet 3 1), (23, oILoad 3), (24, oConst (-1)), (25, oIASt), (26, oF (oIInc 4 2 (nI 1))), (29, oF (oIInc 4 3 (nI 1))), (32, oGoto 4), (35, oF (oILoad 2)), (36, oRet K 0 0)]
set_option maxRecDepth 100000 in
theorem kX3_removeLinesOf {X : gX} {l : Launch} (hM : gM X l cX3_removeLinesOf RX3 wsX3_removeLinesOf rmX3_removeLinesOf) {K : gK} (hE : gR X K 0 0 (some .int)) (hnL : X.2.2.2.2.2.2.2.2.2.2.2.2.2.2.2.2 = 4) : okL X (pX3_removeLinesOf K) := by
  obtain ⟨p, l1, e, R, s, m, args, below, meth, c, D, cA, A, ag, ad0, Q, nL⟩ := X
  cases hnL
  refine ⟨ok_iconst hM dX3_removeLinesOf_0 rfl,
    ok_F (ok_istore_n hM 2 dX3_removeLinesOf_1 rfl),
    ok_iconst hM dX3_removeLinesOf_2 rfl,
    ok_F (ok_istore_n hM 3 dX3_removeLinesOf_3 rfl),
    ok_F (ok_iload_n hM 3 dX3_removeLinesOf_4 rfl),
    ok_bipush hM dX3_removeLinesOf_5 rfl,
    ok_icmp_ge hM 35 dX3_removeLinesOf_7 (by decide),
    ok_aload_n hM 0 dX3_removeLinesOf_10 rfl,
    ok_iload_n hM 1 dX3_removeLinesOf_11 rfl,
    ok_iload_n hM 3 dX3_removeLinesOf_12 rfl,
    ok_callV hM [0,1,2,3] (ctX3_holdsLineOf l) rfl rfl gX3_removeLinesOf_X3_holdsLineOf rfl rfl rfl (by decide +kernel) (by decide) dX3_removeLinesOf_13,
    ok_F (ok_if_eq hM 29 dX3_removeLinesOf_16 (by decide)),
    ok_aload_n hM 0 dX3_removeLinesOf_19 rfl,
    ok_get (C := RX3) (T := TX3) (Nf := 3) hM (fun _ h => List.mem_cons_of_mem _ (List.mem_append_right _ h)) rfl 1 (by decide) (List.mem_of_getElem? (i := 1) rfl) rfl dX3_removeLinesOf_20,
    ok_iload_n hM 3 dX3_removeLinesOf_23 rfl,
    ok_iconst hM dX3_removeLinesOf_24 rfl,
    ok_iast hM dX3_removeLinesOf_25,
    ok_F (ok_iinc hM 2 dX3_removeLinesOf_26 rfl),
    ok_F (ok_iinc hM 3 dX3_removeLinesOf_29 rfl),
    ok_goto hM 4 dX3_removeLinesOf_32 (by decide),
    ok_F (ok_iload_n hM 2 dX3_removeLinesOf_35 rfl),
    ok_ret hM hE dX3_removeLinesOf_36,
    trivial⟩
set_option maxRecDepth 100000 in
theorem ctX3_removeLinesOf (l : Launch) : Ct l yX3_removeLinesOf wsX3_removeLinesOf rmX3_removeLinesOf 0 0 false sX3_removeLinesOf := by
  refine ct_of (own := RX3) (cc := cX3_removeLinesOf) (maxL := 4) (ret := (some .int)) (by decide) rfl rfl (by rintro _ _ _ ⟨t, ow, hd, st, rfl, rfl, hK⟩; exact Nat.le_of_ble_eq_true rfl) ?_
  intro X av es K hM hE hag hin hnL hsp
  obtain ⟨t, ow, hd, st, rfl, rfl, hK⟩ := hsp
  have hf := kX3_removeLinesOf hM (gR_eqv hE) hnL
  refine g_with (X := X) 4 [0, 1, 2, 3] (fun μ vs es k n => ∃ (i : Nat) (hd' : Nat → Int32), μ = 32 - i ∧ i ≤ 32 ∧ (∀ j, hd' j = if j < i ∧ hol hd t j = true then -1 else hd j) ∧ vs = [.ref 0, .int t, .int (nI (cnt (hol hd t) i)), .int (nI i)] ∧ es = plE ow hd' st ∧ k = 0 ∧ n = 0) cut_nil (fun μ hc vs es k n hI => ?_) (fun hc => ?_)
  · obtain ⟨i, hd', rfl, hi, hd1, rfl, rfl, rfl, rfl⟩ := hI
    refine g_go hf hc 5 ?_
    refine ⟨fun h => ?_, fun h => ?_⟩
    · have : i = 32 := by
        rw [nI_leI (by decide) (by omega)] at h
        omega
      subst this
      refine ⟨plE ow (rmv hd t) st, ⟨rfl, ⟨rfl, rfl, fun _ _ => rfl⟩, ⟨rfl, rfl, fun j hj => ?_⟩, ⟨rfl, rfl, fun _ _ => rfl⟩, trivial⟩, hK⟩
      rw [hd1, rmv]
      simp [hj]
    · rw [nI_leI (by decide) (by omega)] at h
      have he : hol hd' t i = hol hd t i := by simp [hol, hd1]
      refine ⟨t, _, i, ow, hd', st, rfl, rfl, by omega, rfl, ?_⟩
      refine ⟨fun h2 => ?_, fun h2 => ?_⟩
      · rw [bI_0, he] at h2
        refine ⟨32 - (i + 1), by omega, i + 1, hd', rfl, by omega, fun j => ?_, by rw [nI_add, cnt_f (by simpa using h2)], rfl, rfl, rfl⟩
        rw [hd1]
        by_cases hj : j = i
        · subst hj
          simp [h2]
        · have : (j < i) ↔ (j < i + 1) := by omega
          simp [this]
      · rw [bI_0, he] at h2
        refine ⟨i, rfl, by omega, ?_⟩
        refine ⟨32 - (i + 1), by omega, i + 1, upd hd' i (-1), rfl, by omega, fun j => ?_, by rw [nI_add, nI_add, cnt_t (by simpa using h2)], rfl, rfl, rfl⟩
        unfold upd
        by_cases hj : j = i
        · subst hj
          have h3 : hol hd t j = true := by simpa using h2
          simp [h3]
        · have : (j < i) ↔ (j < i + 1) := by omega
          rw [if_neg hj, hd1]
          simp [this]
  · refine wr_ok hf hc 5 0 _ _ _ _ _ ?_
    exact ⟨32, 0, hd, rfl, by omega, fun j => by simp, rfl, rfl, rfl, rfl⟩
end MP

/-! PartitionedCacheModel: flushes, targets' first values. -/
section MM4
def flI (R : Nat → Int32) (t i : Nat) : Nat → Int32 := fun j => if 8 ≤ j ∧ j < 8 + i ∧ hol (hdR R) (nI t) (j - 8) = true then -1 else if 40 ≤ j ∧ j < 40 + i ∧ hol (hdR R) (nI t) (j - 40) = true then nI 0 else R j
theorem flI_0 (R : Nat → Int32) (t j : Nat) : flI R t 0 j = R j := by
  unfold flI
  rw [if_neg (by omega), if_neg (by omega)]
theorem flI_at {R : Nat → Int32} {t i : Nat} (hi : i < 32) : flI R t i (8 + i) = R (8 + i) := by
  unfold flI
  rw [if_neg (by omega), if_neg (by omega)]
theorem flI_n {R : Nat → Int32} {t i : Nat} (h : ¬ hol (hdR R) (nI t) i = true) (j : Nat) : flI R t (i + 1) j = flI R t i j := by
  unfold flI
  have e1 : (8 ≤ j ∧ j < 8 + (i + 1) ∧ hol (hdR R) (nI t) (j - 8) = true) ↔ (8 ≤ j ∧ j < 8 + i ∧ hol (hdR R) (nI t) (j - 8) = true) := by
    refine ⟨fun q => ⟨q.1, ?_, q.2.2⟩, fun q => ⟨q.1, by omega, q.2.2⟩⟩
    by_cases hj : j = 8 + i
    · exfalso
      rw [hj, show 8 + i - 8 = i by omega] at q
      exact h q.2.2
    · omega
  have e2 : (40 ≤ j ∧ j < 40 + (i + 1) ∧ hol (hdR R) (nI t) (j - 40) = true) ↔ (40 ≤ j ∧ j < 40 + i ∧ hol (hdR R) (nI t) (j - 40) = true) := by
    refine ⟨fun q => ⟨q.1, ?_, q.2.2⟩, fun q => ⟨q.1, by omega, q.2.2⟩⟩
    by_cases hj : j = 40 + i
    · exfalso
      rw [hj, show 40 + i - 40 = i by omega] at q
      exact h q.2.2
    · omega
  simp only [e1, e2]
theorem flI_t {R : Nat → Int32} {t i : Nat} (hi : i < 32) (h : hol (hdR R) (nI t) i = true) (j : Nat) : flI R t (i + 1) j = upd (upd (flI R t i) (8 + i) (-1)) (40 + i) (nI 0) j := by
  unfold upd
  by_cases h1 : j = 40 + i
  · subst h1
    rw [if_pos rfl]
    unfold flI
    rw [if_neg (by omega), if_pos ⟨by omega, by omega, by rw [show 40 + i - 40 = i by omega]; exact h⟩]
  · rw [if_neg h1]
    by_cases h2 : j = 8 + i
    · subst h2
      rw [if_pos rfl]
      unfold flI
      rw [if_pos ⟨by omega, by omega, by rw [show 8 + i - 8 = i by omega]; exact h⟩]
    · rw [if_neg h2]
      unfold flI
      have e1 : (8 ≤ j ∧ j < 8 + (i + 1) ∧ hol (hdR R) (nI t) (j - 8) = true) ↔ (8 ≤ j ∧ j < 8 + i ∧ hol (hdR R) (nI t) (j - 8) = true) := ⟨fun q => ⟨q.1, by omega, q.2.2⟩, fun q => ⟨q.1, by omega, q.2.2⟩⟩
      have e2 : (40 ≤ j ∧ j < 40 + (i + 1) ∧ hol (hdR R) (nI t) (j - 40) = true) ↔ (40 ≤ j ∧ j < 40 + i ∧ hol (hdR R) (nI t) (j - 40) = true) := ⟨fun q => ⟨q.1, by omega, q.2.2⟩, fun q => ⟨q.1, by omega, q.2.2⟩⟩
      simp only [e1, e2]
def sX7_flushes : gS := fun av es K => ∃ x t fs R r, av = [.ref 0, .int x] ∧ x = nI t ∧ lnOK R ∧ es = rw2 fs R r ∧ K (some (.int (nI (cnt (hol (hdR R) (nI t)) 32)))) (rw2 fs (flI R t 32) r)
def rmX7_flushes : Room := { frames := 0, cells := 0, slots := 0, locals := 0 }
def pX7_flushes (K : gK) : List (Nat × gO) := [(0, oConst (nI 0)), (1, oFR 2 (oIStore 4 2)), (2, oConst (nI 0)), (3, oFR 2 (oIStore 4 3)), (4, oFR 2 (oILoad 3)), (5, oConst (nI 32)), (7, oICmp_ge 68), (10, oALoad 0), (11, oGet 7 0), (14, oConst (nI 8)), (16, oILoad 3), (17, oAdd), (18, oIALd 0), (19, oIf_lt 62), (22, oALoad 0), (23, oGet 7 0), (26, oConst (nI 8)), (28, oILoad 3), (29, oAdd), (30, oIALd 0), (31, oConst (nI 256)), (34, oDiv), (35, oILoad 1), (36, oICmp_ne 62), (39, oALoad 0), (40, oGet 7 0), (43, oConst (nI 8)), (45, oILoad 3), (46, oAdd), (47, oConst (-1)), (48, oIASt), (49, oFR 2 (oALoad 0)), (50, oGet 7 0), (53, oConst (nI 40)), (55, oILoad 3), (56, oAdd), (57, oConst (nI 0)), (58, oIASt), (59, oFR 2 (oIInc 4 2 (nI 1))), (62, oFR 2 (oIInc 4 3 (nI 1))), (65, oGoto 4), (68, oFR 2 (oILoad 2)), (69, oRet K 0 0)]
set_option maxRecDepth 100000 in
theorem kX7_flushes {X : gX} {l : Launch} (hM : gM X l cX7_flushes RX7 wsX7_flushes rmX7_flushes) {K : gK} (hE : gR X K 0 0 (some .int)) (hnL : X.2.2.2.2.2.2.2.2.2.2.2.2.2.2.2.2 = 4) : okL X (pX7_flushes K) := by
  obtain ⟨p, l1, e, R, s, m, args, below, meth, c, D, cA, A, ag, ad0, Q, nL⟩ := X
  cases hnL
  refine ⟨ok_iconst hM dX7_flushes_0 rfl,
    ok_FR (ok_istore_n hM 2 dX7_flushes_1 rfl),
    ok_iconst hM dX7_flushes_2 rfl,
    ok_FR (ok_istore_n hM 3 dX7_flushes_3 rfl),
    ok_FR (ok_iload_n hM 3 dX7_flushes_4 rfl),
    ok_bipush hM dX7_flushes_5 rfl,
    ok_icmp_ge hM 68 dX7_flushes_7 (by decide),
    ok_aload_n hM 0 dX7_flushes_10 rfl,
    ok_get (C := RX7) (T := TX7) (Nf := 11) hM (fun _ h => List.mem_cons_of_mem _ (List.mem_append_right _ h)) rfl 0 (by decide) (List.mem_of_getElem? (i := 1) rfl) rfl dX7_flushes_11,
    ok_bipush hM dX7_flushes_14 rfl,
    ok_iload_n hM 3 dX7_flushes_16 rfl,
    ok_iadd hM dX7_flushes_17,
    ok_iald hM dX7_flushes_18,
    ok_if_lt hM 62 dX7_flushes_19 (by decide),
    ok_aload_n hM 0 dX7_flushes_22 rfl,
    ok_get (C := RX7) (T := TX7) (Nf := 11) hM (fun _ h => List.mem_cons_of_mem _ (List.mem_append_right _ h)) rfl 0 (by decide) (List.mem_of_getElem? (i := 1) rfl) rfl dX7_flushes_23,
    ok_bipush hM dX7_flushes_26 rfl,
    ok_iload_n hM 3 dX7_flushes_28 rfl,
    ok_iadd hM dX7_flushes_29,
    ok_iald hM dX7_flushes_30,
    ok_sipush hM dX7_flushes_31 rfl,
    ok_idiv hM dX7_flushes_34,
    ok_iload_n hM 1 dX7_flushes_35 rfl,
    ok_icmp_ne hM 62 dX7_flushes_36 (by decide),
    ok_aload_n hM 0 dX7_flushes_39 rfl,
    ok_get (C := RX7) (T := TX7) (Nf := 11) hM (fun _ h => List.mem_cons_of_mem _ (List.mem_append_right _ h)) rfl 0 (by decide) (List.mem_of_getElem? (i := 1) rfl) rfl dX7_flushes_40,
    ok_bipush hM dX7_flushes_43 rfl,
    ok_iload_n hM 3 dX7_flushes_45 rfl,
    ok_iadd hM dX7_flushes_46,
    ok_iconst hM dX7_flushes_47 rfl,
    ok_iast hM dX7_flushes_48,
    ok_FR (ok_aload_n hM 0 dX7_flushes_49 rfl),
    ok_get (C := RX7) (T := TX7) (Nf := 11) hM (fun _ h => List.mem_cons_of_mem _ (List.mem_append_right _ h)) rfl 0 (by decide) (List.mem_of_getElem? (i := 1) rfl) rfl dX7_flushes_50,
    ok_bipush hM dX7_flushes_53 rfl,
    ok_iload_n hM 3 dX7_flushes_55 rfl,
    ok_iadd hM dX7_flushes_56,
    ok_iconst hM dX7_flushes_57 rfl,
    ok_iast hM dX7_flushes_58,
    ok_FR (ok_iinc hM 2 dX7_flushes_59 rfl),
    ok_FR (ok_iinc hM 3 dX7_flushes_62 rfl),
    ok_goto hM 4 dX7_flushes_65 (by decide),
    ok_FR (ok_iload_n hM 2 dX7_flushes_68 rfl),
    ok_ret hM hE dX7_flushes_69,
    trivial⟩
set_option maxRecDepth 100000 in
theorem ctX7_flushes (l : Launch) : Ct l yX7_flushes wsX7_flushes rmX7_flushes 0 0 false sX7_flushes := by
  refine ct_of (own := RX7) (cc := cX7_flushes) (maxL := 4) (ret := (some .int)) (by decide) rfl rfl (by rintro _ _ _ ⟨x, t, fs, R, r, rfl, rfl, hln, rfl, hK⟩; exact Nat.le_of_ble_eq_true rfl) ?_
  intro X av es K hM hE hag hin hnL hsp
  obtain ⟨x, t, fs, R, r, rfl, rfl, hln, rfl, hK⟩ := hsp
  have hf := kX7_flushes hM (gR_eqv hE) hnL
  refine g_with (X := X) 4 [0, 1, 2, 3] (fun μ vs es k n => ∃ (i : Nat) (R' : Nat → Int32), μ = 32 - i ∧ i ≤ 32 ∧ (∀ j, R' j = flI R t i j) ∧ vs = [.ref 0, .int (nI t), .int (nI (cnt (hol (hdR R) (nI t)) i)), .int (nI i)] ∧ es = rw2 fs R' r ∧ k = 0 ∧ n = 0) cut_nil (fun μ hc vs es k n hI => ?_) (fun hc => ?_)
  · obtain ⟨i, R', rfl, hi, hR, rfl, rfl, rfl, rfl⟩ := hI
    refine g_go hf hc 5 ?_
    refine ⟨fun h => ?_, fun h => ?_⟩
    · have h4 : i = 32 := by
        rw [nI_leI (by decide) (by omega)] at h
        omega
      subst h4
      exact ⟨rw2 fs (flI R t 32) r, ⟨rfl, ⟨rfl, rfl, fun j hj => hR j⟩, eqL_rfl _⟩, hK⟩
    · have h4 : i < 32 := by
        rw [nI_leI (by decide) (by omega)] at h
        omega
      have hl := ln_neg (hln i h4)
      have ea : R' (8 + i) = hdR R i := (hR _).trans (flI_at h4)
      refine ⟨8 + i, by rw [nI_add], by omega, ?_⟩
      rw [ea]
      refine ⟨fun h5 => ?_, fun h5 => ?_⟩
      · have h6 : ¬ hol (hdR R) (nI t) i = true := by
          have := hl.mp h5
          simp [hol, this]
        exact ⟨32 - (i + 1), by omega, i + 1, R', rfl, by omega, fun j => by rw [flI_n h6, hR], by rw [cnt_f h6, nI_add], rfl, rfl, rfl⟩
      · have h6 : ¬ hdR R i = -1 := fun q => by
          have := hl.mpr q
          first | exact h5 this | exact absurd this (Int32.not_lt.mpr h5)
        refine ⟨8 + i, by rw [nI_add], by omega, ?_⟩
        refine ⟨by decide, ?_⟩
        rw [ea]
        refine ⟨fun h7 => ?_, fun h7 => ?_⟩
        · have h8 : ¬ hol (hdR R) (nI t) i = true := by
            have h9 : ¬ hdR R i / nI 256 = nI t := h7
            simp [hol, h9]
          exact ⟨32 - (i + 1), by omega, i + 1, R', rfl, by omega, fun j => by rw [flI_n h8, hR], by rw [cnt_f h8, nI_add], rfl, rfl, rfl⟩
        · have h8 : hol (hdR R) (nI t) i = true := by
            have h9 : hdR R i / nI 256 = nI t := h7
            simp [hol, h9, h6]
          refine ⟨8 + i, by rw [nI_add], by omega, ?_⟩
          refine ⟨40 + i, by rw [nI_add], by omega, ?_⟩
          refine ⟨32 - (i + 1), by omega, i + 1, upd (upd R' (8 + i) (-1)) (40 + i) (nI 0), rfl, by omega, fun j => ?_, by rw [cnt_t h8, nI_add, nI_add], rfl, rfl, rfl⟩
          rw [flI_t h4 h8]
          unfold upd
          simp only [hR]
  · refine wr_ok hf hc 5 0 _ _ _ _ _ ?_
    exact ⟨32, 0, R, rfl, by omega, fun j => (flI_0 R t j).symm, rfl, rfl, rfl, rfl⟩
end MM4

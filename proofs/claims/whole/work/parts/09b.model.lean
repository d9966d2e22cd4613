/-! PartitionedCacheModel: lines in a way, halving, deficits. -/
section MM2
/-- the lines of a row are none or of a tenant -/
def lnOK (R : Nat → Int32) : Prop := ∀ p, p < 32 → hdR R p = -1 ∨ ∃ c, c < 1024 ∧ hdR R p = nI c
theorem ln_neg {x : Int32} (h : x = -1 ∨ ∃ c, c < 1024 ∧ x = nI c) : x < 0 ↔ x = -1 := by
  rcases h with rfl | ⟨c, hc, rfl⟩
  · exact ⟨fun _ => rfl, fun _ => by decide⟩
  · refine ⟨fun q => absurd q (nI_pos (by omega)), fun q => ?_⟩
    rw [q]
    decide
def sX7_linesIn : gS := fun av es K => ∃ x y t w fs R r, av = [.ref 0, .int x, .int y] ∧ x = nI t ∧ y = nI w ∧ w < 8 ∧ lnOK R ∧ es = rw2 fs R r ∧ K (some (.int (nI (lnW (hdR R) (nI t) w)))) es
def rmX7_linesIn : Room := { frames := 0, cells := 0, slots := 0, locals := 0 }
def pX7_linesIn (K : gK) : List (Nat × gO) := [(0, oConst (nI 0)), (1, oFR 2 (oIStore 6 3)), (2, oConst (nI 0)), (3, oFR 2 (oIStore 6 4)), (5, oFR 2 (oILoad 4)), (7, oConst (nI 4)), (8, oICmp_ge 57), (11, oALoad 0), (12, oGet 7 0), (15, oConst (nI 8)), (17, oConst (nI 8)), (19, oILoad 4), (21, oMul), (22, oAdd), (23, oILoad 2), (24, oAdd), (25, oIALd 0), (26, oIStore 6 5), (28, oFR 2 (oILoad 3)), (29, oILoad 5), (31, oIf_lt 48), (34, oILoad 5), (36, oConst (nI 256)), (39, oDiv), (40, oILoad 1), (41, oICmp_ne 48), (44, oConst (nI 1)), (45, oGoto 49), (48, oConst (nI 0)), (49, oAdd), (50, oIStore 6 3), (51, oFR 2 (oIInc 6 4 (nI 1))), (54, oGoto 5), (57, oFR 2 (oILoad 3)), (58, oRet K 0 0)]
set_option maxRecDepth 100000 in
theorem kX7_linesIn {X : gX} {l : Launch} (hM : gM X l cX7_linesIn RX7 wsX7_linesIn rmX7_linesIn) {K : gK} (hE : gR X K 0 0 (some .int)) (hnL : X.2.2.2.2.2.2.2.2.2.2.2.2.2.2.2.2 = 6) : okL X (pX7_linesIn K) := by
  obtain ⟨p, l1, e, R, s, m, args, below, meth, c, D, cA, A, ag, ad0, Q, nL⟩ := X
  cases hnL
  refine ⟨ok_iconst hM dX7_linesIn_0 rfl,
    ok_FR (ok_istore_n hM 3 dX7_linesIn_1 rfl),
    ok_iconst hM dX7_linesIn_2 rfl,
    ok_FR (ok_istore hM 4 dX7_linesIn_3),
    ok_FR (ok_iload hM 4 dX7_linesIn_5),
    ok_iconst hM dX7_linesIn_7 rfl,
    ok_icmp_ge hM 57 dX7_linesIn_8 (by decide),
    ok_aload_n hM 0 dX7_linesIn_11 rfl,
    ok_get (C := RX7) (T := TX7) (Nf := 11) hM (fun _ h => List.mem_cons_of_mem _ (List.mem_append_right _ h)) rfl 0 (by decide) (List.mem_of_getElem? (i := 1) rfl) rfl dX7_linesIn_12,
    ok_bipush hM dX7_linesIn_15 rfl,
    ok_bipush hM dX7_linesIn_17 rfl,
    ok_iload hM 4 dX7_linesIn_19,
    ok_imul hM dX7_linesIn_21,
    ok_iadd hM dX7_linesIn_22,
    ok_iload_n hM 2 dX7_linesIn_23 rfl,
    ok_iadd hM dX7_linesIn_24,
    ok_iald hM dX7_linesIn_25,
    ok_istore hM 5 dX7_linesIn_26,
    ok_FR (ok_iload_n hM 3 dX7_linesIn_28 rfl),
    ok_iload hM 5 dX7_linesIn_29,
    ok_if_lt hM 48 dX7_linesIn_31 (by decide),
    ok_iload hM 5 dX7_linesIn_34,
    ok_sipush hM dX7_linesIn_36 rfl,
    ok_idiv hM dX7_linesIn_39,
    ok_iload_n hM 1 dX7_linesIn_40 rfl,
    ok_icmp_ne hM 48 dX7_linesIn_41 (by decide),
    ok_iconst hM dX7_linesIn_44 rfl,
    ok_goto hM 49 dX7_linesIn_45 (by decide),
    ok_iconst hM dX7_linesIn_48 rfl,
    ok_iadd hM dX7_linesIn_49,
    ok_istore_n hM 3 dX7_linesIn_50 rfl,
    ok_FR (ok_iinc hM 4 dX7_linesIn_51 rfl),
    ok_goto hM 5 dX7_linesIn_54 (by decide),
    ok_FR (ok_iload_n hM 3 dX7_linesIn_57 rfl),
    ok_ret hM hE dX7_linesIn_58,
    trivial⟩
set_option maxRecDepth 100000 in
theorem ctX7_linesIn (l : Launch) : Ct l yX7_linesIn wsX7_linesIn rmX7_linesIn 0 0 false sX7_linesIn := by
  refine ct_of (own := RX7) (cc := cX7_linesIn) (maxL := 6) (ret := (some .int)) (by decide) rfl rfl (by rintro _ _ _ ⟨x, y, t, w, fs, R, r, rfl, rfl, rfl, hw, hln, rfl, hK⟩; exact Nat.le_of_ble_eq_true rfl) ?_
  intro X av es K hM hE hag hin hnL hsp
  obtain ⟨x, y, t, w, fs, R, r, rfl, rfl, rfl, hw, hln, rfl, hK⟩ := hsp
  have hf := kX7_linesIn hM hE hnL
  refine g_with (X := X) 5 [0, 1, 2, 3, 4] (fun μ vs es k n => ∃ i : Nat, μ = 4 - i ∧ i ≤ 4 ∧ vs = [.ref 0, .int (nI t), .int (nI w), .int (nI (cnt (fun s => hol (hdR R) (nI t) (s * 8 + w)) i)), .int (nI i)] ∧ es = rw2 fs R r ∧ k = 0 ∧ n = 0) cut_nil (fun μ hc vs es k n hI => ?_) (fun hc => ?_)
  · obtain ⟨i, rfl, hi, rfl, rfl, rfl, rfl⟩ := hI
    refine g_go hf hc 5 ?_
    refine ⟨fun h => ?_, fun h => ?_⟩
    · have h4 : i = 4 := by
        rw [nI_leI (by decide) (by omega)] at h
        omega
      subst h4
      exact hK
    · have h4 : i < 4 := by
        rw [nI_leI (by decide) (by omega)] at h
        omega
      have hl := ln_neg (hln (i * 8 + w) (by omega))
      refine ⟨8 + (i * 8 + w), by rw [pk_mul, nI_add, nI_add, Nat.mul_comm, Nat.add_assoc], by omega, ?_⟩
      refine ⟨fun h5 => ?_, fun h5 => ?_⟩
      · have h6 : ¬ hol (hdR R) (nI t) (i * 8 + w) = true := by
          have := hl.mp h5
          simp [hol, this]
        exact ⟨4 - (i + 1), by omega, i + 1, rfl, by omega, by rw [cnt_f (p := fun s => hol (hdR R) (nI t) (s * 8 + w)) h6, nI_add, nI_add]; rfl, rfl, rfl, rfl⟩
      · have h6 : ¬ hdR R (i * 8 + w) = -1 := fun q => by
          have := hl.mpr q
          first | exact h5 this | exact absurd this (Int32.not_lt.mpr h5)
        refine ⟨by decide, ?_⟩
        refine ⟨fun h7 => ?_, fun h7 => ?_⟩
        · have h8 : ¬ hol (hdR R) (nI t) (i * 8 + w) = true := by
            have h9 : ¬ hdR R (i * 8 + w) / nI 256 = nI t := h7
            simp [hol, h9]
          exact ⟨4 - (i + 1), by omega, i + 1, rfl, by omega, by rw [cnt_f (p := fun s => hol (hdR R) (nI t) (s * 8 + w)) h8, nI_add, nI_add]; rfl, rfl, rfl, rfl⟩
        · have h8 : hol (hdR R) (nI t) (i * 8 + w) = true := by
            have h9 : hdR R (i * 8 + w) / nI 256 = nI t := h7
            simp [hol, h9, h6]
          exact ⟨4 - (i + 1), by omega, i + 1, rfl, by omega, by rw [cnt_t (p := fun s => hol (hdR R) (nI t) (s * 8 + w)) h8, nI_add, nI_add], rfl, rfl, rfl⟩
  · refine wr_ok hf hc 5 0 _ _ _ _ _ ?_
    exact ⟨4, 0, rfl, by omega, rfl, rfl, rfl, rfl⟩
def hvR (R : Nat → Int32) : Nat → Int32 := fun j => if 152 ≤ j ∧ j < 184 then R j / nI 2 else R j
def sX7_halve : gS := fun av es K => ∃ fs R r, av = [.ref 0] ∧ es = rw2 fs R r ∧ K (some (.int (sumI (hlv (gaR R)) 32))) (rw2 fs (hvR R) r)
def rmX7_halve : Room := { frames := 0, cells := 0, slots := 0, locals := 0 }
def pX7_halve (K : gK) : List (Nat × gO) := [(0, oConst (nI 0)), (1, oFR 2 (oIStore 3 1)), (2, oConst (nI 0)), (3, oFR 2 (oIStore 3 2)), (4, oFR 2 (oILoad 2)), (5, oConst (nI 32)), (7, oICmp_ge 43), (10, oALoad 0), (11, oGet 7 0), (14, oConst (nI 152)), (17, oILoad 2), (18, oAdd), (19, oDup2), (20, oIALd 0), (21, oConst (nI 2)), (22, oDiv), (23, oIASt), (24, oFR 2 (oILoad 1)), (25, oALoad 0), (26, oGet 7 0), (29, oConst (nI 152)), (32, oILoad 2), (33, oAdd), (34, oIALd 0), (35, oAdd), (36, oIStore 3 1), (37, oFR 2 (oIInc 3 2 (nI 1))), (40, oGoto 4), (43, oFR 2 (oILoad 1)), (44, oRet K 0 0)]
set_option maxRecDepth 100000 in
theorem kX7_halve {X : gX} {l : Launch} (hM : gM X l cX7_halve RX7 wsX7_halve rmX7_halve) {K : gK} (hE : gR X K 0 0 (some .int)) (hnL : X.2.2.2.2.2.2.2.2.2.2.2.2.2.2.2.2 = 3) : okL X (pX7_halve K) := by
  obtain ⟨p, l1, e, R, s, m, args, below, meth, c, D, cA, A, ag, ad0, Q, nL⟩ := X
  cases hnL
  refine ⟨ok_iconst hM dX7_halve_0 rfl,
    ok_FR (ok_istore_n hM 1 dX7_halve_1 rfl),
    ok_iconst hM dX7_halve_2 rfl,
    ok_FR (ok_istore_n hM 2 dX7_halve_3 rfl),
    ok_FR (ok_iload_n hM 2 dX7_halve_4 rfl),
    ok_bipush hM dX7_halve_5 rfl,
    ok_icmp_ge hM 43 dX7_halve_7 (by decide),
    ok_aload_n hM 0 dX7_halve_10 rfl,
    ok_get (C := RX7) (T := TX7) (Nf := 11) hM (fun _ h => List.mem_cons_of_mem _ (List.mem_append_right _ h)) rfl 0 (by decide) (List.mem_of_getElem? (i := 1) rfl) rfl dX7_halve_11,
    ok_sipush hM dX7_halve_14 rfl,
    ok_iload_n hM 2 dX7_halve_17 rfl,
    ok_iadd hM dX7_halve_18,
    ok_dup2 hM dX7_halve_19,
    ok_iald hM dX7_halve_20,
    ok_iconst hM dX7_halve_21 rfl,
    ok_idiv hM dX7_halve_22,
    ok_iast hM dX7_halve_23,
    ok_FR (ok_iload_n hM 1 dX7_halve_24 rfl),
    ok_aload_n hM 0 dX7_halve_25 rfl,
    ok_get (C := RX7) (T := TX7) (Nf := 11) hM (fun _ h => List.mem_cons_of_mem _ (List.mem_append_right _ h)) rfl 0 (by decide) (List.mem_of_getElem? (i := 1) rfl) rfl dX7_halve_26,
    ok_sipush hM dX7_halve_29 rfl,
    ok_iload_n hM 2 dX7_halve_32 rfl,
    ok_iadd hM dX7_halve_33,
    ok_iald hM dX7_halve_34,
    ok_iadd hM dX7_halve_35,
    ok_istore_n hM 1 dX7_halve_36 rfl,
    ok_FR (ok_iinc hM 2 dX7_halve_37 rfl),
    ok_goto hM 4 dX7_halve_40 (by decide),
    ok_FR (ok_iload_n hM 1 dX7_halve_43 rfl),
    ok_ret hM hE dX7_halve_44,
    trivial⟩
set_option maxRecDepth 100000 in
theorem ctX7_halve (l : Launch) : Ct l yX7_halve wsX7_halve rmX7_halve 0 0 false sX7_halve := by
  refine ct_of (own := RX7) (cc := cX7_halve) (maxL := 3) (ret := (some .int)) (by decide) rfl rfl (by rintro _ _ _ ⟨fs, R, r, rfl, rfl, hK⟩; exact Nat.le_of_ble_eq_true rfl) ?_
  intro X av es K hM hE hag hin hnL hsp
  obtain ⟨fs, R, r, rfl, rfl, hK⟩ := hsp
  have hf := kX7_halve hM (gR_eqv hE) hnL
  refine g_with (X := X) 4 [0, 1, 2] (fun μ vs es k n => ∃ (i : Nat) (R' : Nat → Int32), μ = 32 - i ∧ i ≤ 32 ∧ (∀ j, R' j = if 152 ≤ j ∧ j < 152 + i then R j / nI 2 else R j) ∧ vs = [.ref 0, .int (sumI (hlv (gaR R)) i), .int (nI i)] ∧ es = rw2 fs R' r ∧ k = 0 ∧ n = 0) cut_nil (fun μ hc vs es k n hI => ?_) (fun hc => ?_)
  · obtain ⟨i, R', rfl, hi, hR, rfl, rfl, rfl, rfl⟩ := hI
    refine g_go hf hc 5 ?_
    refine ⟨fun h => ?_, fun h => ?_⟩
    · have h4 : i = 32 := by
        rw [nI_leI (by decide) (by omega)] at h
        omega
      subst h4
      exact ⟨rw2 fs (hvR R) r, ⟨rfl, ⟨rfl, rfl, fun j hj => hR j⟩, eqL_rfl _⟩, hK⟩
    · have h4 : i < 32 := by
        rw [nI_leI (by decide) (by omega)] at h
        omega
      have e1 : R' (152 + i) = R (152 + i) := by rw [hR, if_neg (by omega)]
      refine ⟨152 + i, by rw [nI_add], by omega, ?_⟩
      refine ⟨by decide, ?_⟩
      refine ⟨152 + i, by rw [nI_add], by omega, ?_⟩
      refine ⟨152 + i, by rw [nI_add], by omega, ?_⟩
      refine ⟨32 - (i + 1), by omega, i + 1, upd R' (152 + i) (R' (152 + i) / nI 2), rfl, by omega, fun j => ?_, ?_, rfl, rfl, rfl⟩
      · unfold upd
        by_cases h6 : j = 152 + i
        · rw [if_pos h6, h6, e1, if_pos ⟨by omega, by omega⟩]
        · rw [if_neg h6, hR]
          have : (152 ≤ j ∧ j < 152 + i) ↔ (152 ≤ j ∧ j < 152 + (i + 1)) := by omega
          simp only [this]
      · have e2 : upd R' (152 + i) (R' (152 + i) / nI 2) (152 + i) = hlv (gaR R) i := by
          unfold upd
          rw [if_pos rfl, e1]
          rfl
        rw [e2, nI_add]
        rfl
  · refine wr_ok hf hc 5 0 _ _ _ _ _ ?_
    exact ⟨32, 0, R, rfl, by omega, fun j => by rw [if_neg (by omega)], rfl, rfl, rfl, rfl⟩
/-- the model's cells -/
abbrev mdW (R P S hs tg bf : Nat → Int32) (st ln at0 nu th : Int32) (r : List gE) : List gE := rw2 [.ref 2, .ref 3, .ref 4, .int st, .ref 5, .ref 6, .int ln, .int at0, .int nu, .int th] R (.inl (0, 1236, .inl P) :: .inl (0, 412, .inl S) :: .inl (2, 2, .inl hs) :: .inl (0, 4, .inl tg) :: .inl (0, 80, .inl bf) :: r)
def sX7_thrown : gS := fun av es K => ∃ R P S hs tg bf st ln at0 nu th r, av = [.ref 0] ∧ es = mdW R P S hs tg bf st ln at0 nu th r ∧ K (some (.int th)) es
def rmX7_thrown : Room := { frames := 0, cells := 0, slots := 0, locals := 0 }
def pX7_thrown (K : gK) : List (Nat × gO) := [(0, oFR 7 (oALoad 0)), (1, oGet 7 10), (4, oRet K 0 0)]
set_option maxRecDepth 100000 in
theorem kX7_thrown {X : gX} {l : Launch} (hM : gM X l cX7_thrown RX7 wsX7_thrown rmX7_thrown) {K : gK} (hE : gR X K 0 0 (some .int)) (hnL : X.2.2.2.2.2.2.2.2.2.2.2.2.2.2.2.2 = 1) : okL X (pX7_thrown K) := by
  obtain ⟨p, l1, e, R, s, m, args, below, meth, c, D, cA, A, ag, ad0, Q, nL⟩ := X
  cases hnL
  refine ⟨ok_FR (ok_aload_n hM 0 dX7_thrown_0 rfl),
    ok_get (C := RX7) (T := TX7) (Nf := 11) hM (fun _ h => List.mem_cons_of_mem _ (List.mem_append_right _ h)) rfl 10 (by decide) (List.mem_of_getElem? (i := 1) rfl) rfl dX7_thrown_1,
    ok_ret hM hE dX7_thrown_4,
    trivial⟩
set_option maxRecDepth 100000 in
theorem ctX7_thrown (l : Launch) : Ct l yX7_thrown wsX7_thrown rmX7_thrown 0 0 false sX7_thrown := by
  refine ct_of (own := RX7) (cc := cX7_thrown) (maxL := 1) (ret := (some .int)) (by decide) rfl rfl (by rintro _ _ _ ⟨R, P, S, hs, tg, bf, st, ln, at0, nu, th, r, rfl, rfl, hK⟩; exact Nat.le_of_ble_eq_true rfl) ?_
  intro X av es K hM hE hag hin hnL hsp
  obtain ⟨R, P, S, hs, tg, bf, st, ln, at0, nu, th, r, rfl, rfl, hK⟩ := hsp
  have hf := kX7_thrown hM hE hnL
  refine wr_ok hf cut_nil 5 0 _ _ _ _ _ ?_
  exact hK
def sX7_fails : gS := fun av es K => ∃ x R P S hs tg bf st ln at0 nu th r, av = [.ref 0, .int x] ∧ es = mdW R P S hs tg bf st ln at0 nu th r ∧ K (some (.int (nI 0))) (mdW R P S hs tg bf st ln at0 nu x r)
def rmX7_fails : Room := { frames := 0, cells := 0, slots := 0, locals := 0 }
def pX7_fails (K : gK) : List (Nat × gO) := [(0, oFR 7 (oALoad 0)), (1, oILoad 1), (2, oPutI 7 10), (5, oConst (nI 0)), (6, oFR 7 (oRet K 0 0))]
set_option maxRecDepth 100000 in
theorem kX7_fails {X : gX} {l : Launch} (hM : gM X l cX7_fails RX7 wsX7_fails rmX7_fails) {K : gK} (hE : gR X K 0 0 (some .int)) (hnL : X.2.2.2.2.2.2.2.2.2.2.2.2.2.2.2.2 = 2) : okL X (pX7_fails K) := by
  obtain ⟨p, l1, e, R, s, m, args, below, meth, c, D, cA, A, ag, ad0, Q, nL⟩ := X
  cases hnL
  refine ⟨ok_FR (ok_aload_n hM 0 dX7_fails_0 rfl),
    ok_iload_n hM 1 dX7_fails_1 rfl,
    ok_putI (C := RX7) (T := TX7) (Nf := 11) hM (fun _ h => List.mem_cons_of_mem _ (List.mem_append_right _ h)) tyX7 tyX7_ok nmX7 rfl 10 (by decide) (List.mem_of_getElem? (i := 1) rfl) rfl rfl (by decide +kernel) dX7_fails_2,
    ok_iconst hM dX7_fails_5 rfl,
    ok_FR (ok_ret hM hE dX7_fails_6),
    trivial⟩
set_option maxRecDepth 100000 in
theorem ctX7_fails (l : Launch) : Ct l yX7_fails wsX7_fails rmX7_fails 0 0 false sX7_fails := by
  refine ct_of (own := RX7) (cc := cX7_fails) (maxL := 2) (ret := (some .int)) (by decide) rfl rfl (by rintro _ _ _ ⟨x, R, P, S, hs, tg, bf, st, ln, at0, nu, th, r, rfl, rfl, hK⟩; exact Nat.le_of_ble_eq_true rfl) ?_
  intro X av es K hM hE hag hin hnL hsp
  obtain ⟨x, R, P, S, hs, tg, bf, st, ln, at0, nu, th, r, rfl, rfl, hK⟩ := hsp
  have hf := kX7_fails hM hE hnL
  refine wr_ok hf cut_nil 5 0 _ _ _ _ _ ?_
  exact hK
def sX7_deficit : gS := fun av es K => ∃ x t R P S hs tg bf st ln at0 nu th r, av = [.ref 0, .int x] ∧ x = nI t ∧ t < 4 ∧ es = mdW R P S hs tg bf st ln at0 nu th r ∧ K (some (.int (tg t - nI (fOwn R (nI t))))) es
def rmX7_deficit : Room := { frames := 1, cells := 0, slots := 0, locals := 23 }
def pX7_deficit (K : gK) : List (Nat × gO) := [(0, oFR 7 (oALoad 0)), (1, oGet 7 5), (4, oILoad 1), (5, oIALd 0), (6, oALoad 0), (7, oILoad 1), (8, oCallV0 0 0 7 1 sX7_owned), (11, oSub), (12, oFR 7 (oRet K 0 0))]
set_option maxRecDepth 100000 in
theorem kX7_deficit {X : gX} {l : Launch} (hM : gM X l cX7_deficit RX7 wsX7_deficit rmX7_deficit) {K : gK} (hE : gR X K 0 0 (some .int)) (hnL : X.2.2.2.2.2.2.2.2.2.2.2.2.2.2.2.2 = 2) : okL X (pX7_deficit K) := by
  obtain ⟨p, l1, e, R, s, m, args, below, meth, c, D, cA, A, ag, ad0, Q, nL⟩ := X
  cases hnL
  refine ⟨ok_FR (ok_aload_n hM 0 dX7_deficit_0 rfl),
    ok_get (C := RX7) (T := TX7) (Nf := 11) hM (fun _ h => List.mem_cons_of_mem _ (List.mem_append_right _ h)) rfl 5 (by decide) (List.mem_of_getElem? (i := 1) rfl) rfl dX7_deficit_1,
    ok_iload_n hM 1 dX7_deficit_4 rfl,
    ok_iald hM dX7_deficit_5,
    ok_aload_n hM 0 dX7_deficit_6 rfl,
    ok_iload_n hM 1 dX7_deficit_7 rfl,
    ok_callV0 hM (ctX7_owned l) rfl gX7_deficit_X7_owned rfl rfl rfl (by decide +kernel) (by decide) dX7_deficit_8,
    ok_isub hM dX7_deficit_11,
    ok_FR (ok_ret hM hE dX7_deficit_12),
    trivial⟩
set_option maxRecDepth 100000 in
theorem ctX7_deficit (l : Launch) : Ct l yX7_deficit wsX7_deficit rmX7_deficit 0 0 false sX7_deficit := by
  refine ct_of (own := RX7) (cc := cX7_deficit) (maxL := 2) (ret := (some .int)) (by decide) rfl rfl (by rintro _ _ _ ⟨x, t, R, P, S, hs, tg, bf, st, ln, at0, nu, th, r, rfl, rfl, ht, rfl, hK⟩; exact Nat.le_of_ble_eq_true rfl) ?_
  intro X av es K hM hE hag hin hnL hsp
  obtain ⟨x, t, R, P, S, hs, tg, bf, st, ln, at0, nu, th, r, rfl, rfl, ht, rfl, hK⟩ := hsp
  have hf := kX7_deficit hM hE hnL
  refine wr_ok hf cut_nil 5 0 _ _ _ _ _ ?_
  refine ⟨t, rfl, ht, ?_⟩
  refine ⟨nI t, _, R, _, rfl, rfl, ?_⟩
  exact hK
def lowR (tg : Nat → Int32) : Nat → Nat
  | 0 => 0
  | n + 1 => if tg (n + 1) < tg (lowR tg n) then n + 1 else lowR tg n
theorem lowR_le (tg : Nat → Int32) : ∀ n, lowR tg n ≤ n
  | 0 => Nat.le_refl _
  | n + 1 => by
    have := lowR_le tg n
    unfold lowR
    split <;> omega
def sX7_lowestTarget : gS := fun av es K => ∃ R P S hs tg bf st ln at0 nu th r, av = [.ref 0] ∧ es = mdW R P S hs tg bf st ln at0 nu th r ∧ K (some (.int (nI (lowR tg 3)))) es
def rmX7_lowestTarget : Room := { frames := 0, cells := 0, slots := 0, locals := 0 }
def pX7_lowestTarget (K : gK) : List (Nat × gO) := [(0, oConst (nI 0)), (1, oFR 7 (oIStore 3 1)), (2, oConst (nI 1)), (3, oFR 7 (oIStore 3 2)), (4, oFR 7 (oILoad 2)), (5, oConst (nI 4)), (6, oICmp_ge 36), (9, oALoad 0), (10, oGet 7 5), (13, oILoad 2), (14, oIALd 0), (15, oALoad 0), (16, oGet 7 5), (19, oILoad 1), (20, oIALd 0), (21, oICmp_ge 28), (24, oILoad 2), (25, oGoto 29), (28, oILoad 1), (29, oIStore 3 1), (30, oFR 7 (oIInc 3 2 (nI 1))), (33, oGoto 4), (36, oFR 7 (oILoad 1)), (37, oRet K 0 0)]
set_option maxRecDepth 100000 in
theorem kX7_lowestTarget {X : gX} {l : Launch} (hM : gM X l cX7_lowestTarget RX7 wsX7_lowestTarget rmX7_lowestTarget) {K : gK} (hE : gR X K 0 0 (some .int)) (hnL : X.2.2.2.2.2.2.2.2.2.2.2.2.2.2.2.2 = 3) : okL X (pX7_lowestTarget K) := by
  obtain ⟨p, l1, e, R, s, m, args, below, meth, c, D, cA, A, ag, ad0, Q, nL⟩ := X
  cases hnL
  refine ⟨ok_iconst hM dX7_lowestTarget_0 rfl,
    ok_FR (ok_istore_n hM 1 dX7_lowestTarget_1 rfl),
    ok_iconst hM dX7_lowestTarget_2 rfl,
    ok_FR (ok_istore_n hM 2 dX7_lowestTarget_3 rfl),
    ok_FR (ok_iload_n hM 2 dX7_lowestTarget_4 rfl),
    ok_iconst hM dX7_lowestTarget_5 rfl,
    ok_icmp_ge hM 36 dX7_lowestTarget_6 (by decide),
    ok_aload_n hM 0 dX7_lowestTarget_9 rfl,
    ok_get (C := RX7) (T := TX7) (Nf := 11) hM (fun _ h => List.mem_cons_of_mem _ (List.mem_append_right _ h)) rfl 5 (by decide) (List.mem_of_getElem? (i := 1) rfl) rfl dX7_lowestTarget_10,
    ok_iload_n hM 2 dX7_lowestTarget_13 rfl,
    ok_iald hM dX7_lowestTarget_14,
    ok_aload_n hM 0 dX7_lowestTarget_15 rfl,
    ok_get (C := RX7) (T := TX7) (Nf := 11) hM (fun _ h => List.mem_cons_of_mem _ (List.mem_append_right _ h)) rfl 5 (by decide) (List.mem_of_getElem? (i := 1) rfl) rfl dX7_lowestTarget_16,
    ok_iload_n hM 1 dX7_lowestTarget_19 rfl,
    ok_iald hM dX7_lowestTarget_20,
    ok_icmp_ge hM 28 dX7_lowestTarget_21 (by decide),
    ok_iload_n hM 2 dX7_lowestTarget_24 rfl,
    ok_goto hM 29 dX7_lowestTarget_25 (by decide),
    ok_iload_n hM 1 dX7_lowestTarget_28 rfl,
    ok_istore_n hM 1 dX7_lowestTarget_29 rfl,
    ok_FR (ok_iinc hM 2 dX7_lowestTarget_30 rfl),
    ok_goto hM 4 dX7_lowestTarget_33 (by decide),
    ok_FR (ok_iload_n hM 1 dX7_lowestTarget_36 rfl),
    ok_ret hM hE dX7_lowestTarget_37,
    trivial⟩
set_option maxRecDepth 100000 in
theorem ctX7_lowestTarget (l : Launch) : Ct l yX7_lowestTarget wsX7_lowestTarget rmX7_lowestTarget 0 0 false sX7_lowestTarget := by
  refine ct_of (own := RX7) (cc := cX7_lowestTarget) (maxL := 3) (ret := (some .int)) (by decide) rfl rfl (by rintro _ _ _ ⟨R, P, S, hs, tg, bf, st, ln, at0, nu, th, r, rfl, rfl, hK⟩; exact Nat.le_of_ble_eq_true rfl) ?_
  intro X av es K hM hE hag hin hnL hsp
  obtain ⟨R, P, S, hs, tg, bf, st, ln, at0, nu, th, r, rfl, rfl, hK⟩ := hsp
  have hf := kX7_lowestTarget hM hE hnL
  refine g_with (X := X) 4 [0, 1, 2] (fun μ vs es k n => ∃ i : Nat, μ = 3 - i ∧ i ≤ 3 ∧ vs = [.ref 0, .int (nI (lowR tg i)), .int (nI (i + 1))] ∧ es = mdW R P S hs tg bf st ln at0 nu th r ∧ k = 0 ∧ n = 0) cut_nil (fun μ hc vs es k n hI => ?_) (fun hc => ?_)
  · obtain ⟨i, rfl, hi, rfl, rfl, rfl, rfl⟩ := hI
    have hl := lowR_le tg i
    refine g_go hf hc 5 ?_
    refine ⟨fun h => ?_, fun h => ?_⟩
    · have h4 : i = 3 := by
        rw [nI_leI (by decide) (by omega)] at h
        omega
      subst h4
      exact hK
    · have h4 : i < 3 := by
        rw [nI_leI (by decide) (by omega)] at h
        omega
      refine ⟨i + 1, rfl, by omega, ?_⟩
      refine ⟨lowR tg i, rfl, by omega, ?_⟩
      refine ⟨fun h5 => ?_, fun h5 => ?_⟩
      · have h6 : ¬ tg (i + 1) < tg (lowR tg i) := by first | exact h5 | exact Int32.not_lt.mpr h5
        exact ⟨3 - (i + 1), by omega, i + 1, rfl, by omega, by rw [nI_add]; simp only [lowR, if_neg h6], rfl, rfl, rfl⟩
      · have h6 : tg (i + 1) < tg (lowR tg i) := by first | exact h5 | exact Int32.not_le.mp h5
        exact ⟨3 - (i + 1), by omega, i + 1, rfl, by omega, by rw [nI_add]; simp only [lowR, if_pos h6], rfl, rfl, rfl⟩
  · refine wr_ok hf hc 5 0 _ _ _ _ _ ?_
    exact ⟨3, 0, rfl, by omega, rfl, rfl, rfl, rfl⟩
end MM2

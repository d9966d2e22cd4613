/-! State and History: contracts. -/
section MS
abbrev st0 (v : gV) : List gE := [.inr (4, [.ref 1, .ref 5, .ref 8, .ref 9, .int (vEp v), .int (vAc v)]), .inr (3, [.ref 2, .ref 3, .ref 4]), .inl (0, 8, .inl (vOw v)), .inl (0, 32, .inl (vHd v)), .inl (0, 32, .inl (vSt v)), .inr (2, [.ref 6, .ref 7]), .inl (0, 64, .inl (vAd v)), .inl (0, 32, .inl (vGa v)), .inl (0, 4, .inl (vLe v)), .inl (0, 16, .inl (vCo v))]
abbrev st10 (v : gV) : List gE := [.inr (4, [.ref 11, .ref 15, .ref 18, .ref 19, .int (vEp v), .int (vAc v)]), .inr (3, [.ref 12, .ref 13, .ref 14]), .inl (0, 8, .inl (vOw v)), .inl (0, 32, .inl (vHd v)), .inl (0, 32, .inl (vSt v)), .inr (2, [.ref 16, .ref 17]), .inl (0, 64, .inl (vAd v)), .inl (0, 32, .inl (vGa v)), .inl (0, 4, .inl (vLe v)), .inl (0, 16, .inl (vCo v))]
abbrev st2 (v : gV) : List gE := [.inr (4, [.ref 3, .ref 7, .ref 10, .ref 11, .int (vEp v), .int (vAc v)]), .inr (3, [.ref 4, .ref 5, .ref 6]), .inl (0, 8, .inl (vOw v)), .inl (0, 32, .inl (vHd v)), .inl (0, 32, .inl (vSt v)), .inr (2, [.ref 8, .ref 9]), .inl (0, 64, .inl (vAd v)), .inl (0, 32, .inl (vGa v)), .inl (0, 4, .inl (vLe v)), .inl (0, 16, .inl (vCo v))]
abbrev st12 (v : gV) : List gE := [.inr (4, [.ref 13, .ref 17, .ref 20, .ref 21, .int (vEp v), .int (vAc v)]), .inr (3, [.ref 14, .ref 15, .ref 16]), .inl (0, 8, .inl (vOw v)), .inl (0, 32, .inl (vHd v)), .inl (0, 32, .inl (vSt v)), .inr (2, [.ref 18, .ref 19]), .inl (0, 64, .inl (vAd v)), .inl (0, 32, .inl (vGa v)), .inl (0, 4, .inl (vLe v)), .inl (0, 16, .inl (vCo v))]
abbrev st22 (v : gV) : List gE := [.inr (4, [.ref 23, .ref 27, .ref 30, .ref 31, .int (vEp v), .int (vAc v)]), .inr (3, [.ref 24, .ref 25, .ref 26]), .inl (0, 8, .inl (vOw v)), .inl (0, 32, .inl (vHd v)), .inl (0, 32, .inl (vSt v)), .inr (2, [.ref 28, .ref 29]), .inl (0, 64, .inl (vAd v)), .inl (0, 32, .inl (vGa v)), .inl (0, 4, .inl (vLe v)), .inl (0, 16, .inl (vCo v))]
abbrev st32 (v : gV) : List gE := [.inr (4, [.ref 33, .ref 37, .ref 40, .ref 41, .int (vEp v), .int (vAc v)]), .inr (3, [.ref 34, .ref 35, .ref 36]), .inl (0, 8, .inl (vOw v)), .inl (0, 32, .inl (vHd v)), .inl (0, 32, .inl (vSt v)), .inr (2, [.ref 38, .ref 39]), .inl (0, 64, .inl (vAd v)), .inl (0, 32, .inl (vGa v)), .inl (0, 4, .inl (vLe v)), .inl (0, 16, .inl (vCo v))]
abbrev st42 (v : gV) : List gE := [.inr (4, [.ref 43, .ref 47, .ref 50, .ref 51, .int (vEp v), .int (vAc v)]), .inr (3, [.ref 44, .ref 45, .ref 46]), .inl (0, 8, .inl (vOw v)), .inl (0, 32, .inl (vHd v)), .inl (0, 32, .inl (vSt v)), .inr (2, [.ref 48, .ref 49]), .inl (0, 64, .inl (vAd v)), .inl (0, 32, .inl (vGa v)), .inl (0, 4, .inl (vLe v)), .inl (0, 16, .inl (vCo v))]
abbrev st52 (v : gV) : List gE := [.inr (4, [.ref 53, .ref 57, .ref 60, .ref 61, .int (vEp v), .int (vAc v)]), .inr (3, [.ref 54, .ref 55, .ref 56]), .inl (0, 8, .inl (vOw v)), .inl (0, 32, .inl (vHd v)), .inl (0, 32, .inl (vSt v)), .inr (2, [.ref 58, .ref 59]), .inl (0, 64, .inl (vAd v)), .inl (0, 32, .inl (vGa v)), .inl (0, 4, .inl (vLe v)), .inl (0, 16, .inl (vCo v))]
abbrev st62 (v : gV) : List gE := [.inr (4, [.ref 63, .ref 67, .ref 70, .ref 71, .int (vEp v), .int (vAc v)]), .inr (3, [.ref 64, .ref 65, .ref 66]), .inl (0, 8, .inl (vOw v)), .inl (0, 32, .inl (vHd v)), .inl (0, 32, .inl (vSt v)), .inr (2, [.ref 68, .ref 69]), .inl (0, 64, .inl (vAd v)), .inl (0, 32, .inl (vGa v)), .inl (0, 4, .inl (vLe v)), .inl (0, 16, .inl (vCo v))]
def sX4_copyFrom : gS := fun av es K => ∃ v v', av = [.ref 0, .ref 10] ∧ es = st0 v ++ st10 v' ∧ K none (st0 v' ++ st10 v')
def rmX4_copyFrom : Room := { frames := 2, cells := 0, slots := 0, locals := 81 }
def pX4_copyFrom (K : gK) : List (Nat × gO) := [(0, oF (oALoad 0)), (1, oGet 4 0), (4, oALoad 1), (5, oGet 4 0), (8, oCallV 0 0 3 1 [1,2,3,4,11,12,13,14] sX3_copyFrom), (11, oF (oALoad 0)), (12, oGet 4 1), (15, oALoad 1), (16, oGet 4 1), (19, oCallV 0 0 2 1 [5,6,7,15,16,17] sX2_copyFrom), (22, oF (oALoad 1)), (23, oGet 4 2), (26, oConst (nI 0)), (27, oALoad 0), (28, oGet 4 2), (31, oConst (nI 0)), (32, oALoad 0), (33, oGet 4 2), (36, oALen), (37, oCopy 81), (40, oF (oALoad 1)), (41, oGet 4 3), (44, oConst (nI 0)), (45, oALoad 0), (46, oGet 4 3), (49, oConst (nI 0)), (50, oALoad 0), (51, oGet 4 3), (54, oALen), (55, oCopy 81), (58, oF (oALoad 0)), (59, oALoad 1), (60, oGet 4 4), (63, oPutI 4 4), (66, oF (oALoad 0)), (67, oALoad 1), (68, oGet 4 5), (71, oPutI 4 5), (74, oF (oRetV K 0 0))]
set_option maxRecDepth 100000 in
theorem kX4_copyFrom {X : gX} {l : Launch} (hM : gM X l cX4_copyFrom RX4 wsX4_copyFrom rmX4_copyFrom) {K : gK} (hE : gR X K 0 0 none) (hnL : X.2.2.2.2.2.2.2.2.2.2.2.2.2.2.2.2 = 2) : okL X (pX4_copyFrom K) := by
  obtain ⟨p, l1, e, R, s, m, args, below, meth, c, D, cA, A, ag, ad0, Q, nL⟩ := X
  cases hnL
  refine ⟨ok_F (ok_aload_n hM 0 dX4_copyFrom_0 rfl),
    ok_get (C := RX4) (T := TX4) (Nf := 6) hM (fun _ h => List.mem_cons_of_mem _ (List.mem_append_left _ (List.mem_append_left _ (List.mem_append_right _ h)))) rfl 0 (by decide) (List.mem_of_getElem? (i := 1) rfl) rfl dX4_copyFrom_1,
    ok_aload_n hM 1 dX4_copyFrom_4 rfl,
    ok_get (C := RX4) (T := TX4) (Nf := 6) hM (fun _ h => List.mem_cons_of_mem _ (List.mem_append_left _ (List.mem_append_left _ (List.mem_append_right _ h)))) rfl 0 (by decide) (List.mem_of_getElem? (i := 1) rfl) rfl dX4_copyFrom_5,
    ok_callV hM [1,2,3,4,11,12,13,14] (ctX3_copyFrom l) rfl rfl gX4_copyFrom_X3_copyFrom rfl rfl rfl (by decide +kernel) (by decide) dX4_copyFrom_8,
    ok_F (ok_aload_n hM 0 dX4_copyFrom_11 rfl),
    ok_get (C := RX4) (T := TX4) (Nf := 6) hM (fun _ h => List.mem_cons_of_mem _ (List.mem_append_left _ (List.mem_append_left _ (List.mem_append_right _ h)))) rfl 1 (by decide) (List.mem_of_getElem? (i := 2) rfl) rfl dX4_copyFrom_12,
    ok_aload_n hM 1 dX4_copyFrom_15 rfl,
    ok_get (C := RX4) (T := TX4) (Nf := 6) hM (fun _ h => List.mem_cons_of_mem _ (List.mem_append_left _ (List.mem_append_left _ (List.mem_append_right _ h)))) rfl 1 (by decide) (List.mem_of_getElem? (i := 2) rfl) rfl dX4_copyFrom_16,
    ok_callV hM [5,6,7,15,16,17] (ctX2_copyFrom l) rfl rfl gX4_copyFrom_X2_copyFrom rfl rfl rfl (by decide +kernel) (by decide) dX4_copyFrom_19,
    ok_F (ok_aload_n hM 1 dX4_copyFrom_22 rfl),
    ok_get (C := RX4) (T := TX4) (Nf := 6) hM (fun _ h => List.mem_cons_of_mem _ (List.mem_append_left _ (List.mem_append_left _ (List.mem_append_right _ h)))) rfl 2 (by decide) (List.mem_of_getElem? (i := 3) rfl) rfl dX4_copyFrom_23,
    ok_iconst hM dX4_copyFrom_26 rfl,
    ok_aload_n hM 0 dX4_copyFrom_27 rfl,
    ok_get (C := RX4) (T := TX4) (Nf := 6) hM (fun _ h => List.mem_cons_of_mem _ (List.mem_append_left _ (List.mem_append_left _ (List.mem_append_right _ h)))) rfl 2 (by decide) (List.mem_of_getElem? (i := 3) rfl) rfl dX4_copyFrom_28,
    ok_iconst hM dX4_copyFrom_31 rfl,
    ok_aload_n hM 0 dX4_copyFrom_32 rfl,
    ok_get (C := RX4) (T := TX4) (Nf := 6) hM (fun _ h => List.mem_cons_of_mem _ (List.mem_append_left _ (List.mem_append_left _ (List.mem_append_right _ h)))) rfl 2 (by decide) (List.mem_of_getElem? (i := 3) rfl) rfl dX4_copyFrom_33,
    ok_alen hM dX4_copyFrom_36,
    ok_copy hM (List.mem_of_getElem? (i := 4) rfl) (List.mem_of_getElem? (i := 5) rfl) (List.mem_of_getElem? (i := 6) rfl) (List.mem_of_getElem? (i := 7) rfl) (by decide) (by decide +kernel) dX4_copyFrom_37,
    ok_F (ok_aload_n hM 1 dX4_copyFrom_40 rfl),
    ok_get (C := RX4) (T := TX4) (Nf := 6) hM (fun _ h => List.mem_cons_of_mem _ (List.mem_append_left _ (List.mem_append_left _ (List.mem_append_right _ h)))) rfl 3 (by decide) (List.mem_of_getElem? (i := 8) rfl) rfl dX4_copyFrom_41,
    ok_iconst hM dX4_copyFrom_44 rfl,
    ok_aload_n hM 0 dX4_copyFrom_45 rfl,
    ok_get (C := RX4) (T := TX4) (Nf := 6) hM (fun _ h => List.mem_cons_of_mem _ (List.mem_append_left _ (List.mem_append_left _ (List.mem_append_right _ h)))) rfl 3 (by decide) (List.mem_of_getElem? (i := 8) rfl) rfl dX4_copyFrom_46,
    ok_iconst hM dX4_copyFrom_49 rfl,
    ok_aload_n hM 0 dX4_copyFrom_50 rfl,
    ok_get (C := RX4) (T := TX4) (Nf := 6) hM (fun _ h => List.mem_cons_of_mem _ (List.mem_append_left _ (List.mem_append_left _ (List.mem_append_right _ h)))) rfl 3 (by decide) (List.mem_of_getElem? (i := 8) rfl) rfl dX4_copyFrom_51,
    ok_alen hM dX4_copyFrom_54,
    ok_copy hM (List.mem_of_getElem? (i := 4) rfl) (List.mem_of_getElem? (i := 5) rfl) (List.mem_of_getElem? (i := 6) rfl) (List.mem_of_getElem? (i := 7) rfl) (by decide) (by decide +kernel) dX4_copyFrom_55,
    ok_F (ok_aload_n hM 0 dX4_copyFrom_58 rfl),
    ok_aload_n hM 1 dX4_copyFrom_59 rfl,
    ok_get (C := RX4) (T := TX4) (Nf := 6) hM (fun _ h => List.mem_cons_of_mem _ (List.mem_append_left _ (List.mem_append_left _ (List.mem_append_right _ h)))) rfl 4 (by decide) (List.mem_of_getElem? (i := 9) rfl) rfl dX4_copyFrom_60,
    ok_putI (C := RX4) (T := TX4) (Nf := 6) hM (fun _ h => List.mem_cons_of_mem _ (List.mem_append_left _ (List.mem_append_left _ (List.mem_append_right _ h)))) tyX4 tyX4_ok nmX4 rfl 4 (by decide) (List.mem_of_getElem? (i := 9) rfl) rfl rfl (by decide +kernel) dX4_copyFrom_63,
    ok_F (ok_aload_n hM 0 dX4_copyFrom_66 rfl),
    ok_aload_n hM 1 dX4_copyFrom_67 rfl,
    ok_get (C := RX4) (T := TX4) (Nf := 6) hM (fun _ h => List.mem_cons_of_mem _ (List.mem_append_left _ (List.mem_append_left _ (List.mem_append_right _ h)))) rfl 5 (by decide) (List.mem_of_getElem? (i := 10) rfl) rfl dX4_copyFrom_68,
    ok_putI (C := RX4) (T := TX4) (Nf := 6) hM (fun _ h => List.mem_cons_of_mem _ (List.mem_append_left _ (List.mem_append_left _ (List.mem_append_right _ h)))) tyX4 tyX4_ok nmX4 rfl 5 (by decide) (List.mem_of_getElem? (i := 10) rfl) rfl rfl (by decide +kernel) dX4_copyFrom_71,
    ok_F (ok_retV hM hE dX4_copyFrom_74),
    trivial⟩
set_option maxRecDepth 100000 in
theorem ctX4_copyFrom (l : Launch) : Ct l yX4_copyFrom wsX4_copyFrom rmX4_copyFrom 0 0 false sX4_copyFrom := by
  refine ct_of (own := RX4) (cc := cX4_copyFrom) (maxL := 2) (ret := none) (by decide) rfl rfl (by rintro _ _ _ ⟨v, v', rfl, rfl, hK⟩; exact Nat.le_of_ble_eq_true rfl) ?_
  intro X av es K hM hE hag hin hnL hsp
  obtain ⟨v, v', rfl, rfl, hK⟩ := hsp
  have hf := kX4_copyFrom hM (gR_eqv hE) hnL
  refine wr_ok hf cut_nil 5 0 _ _ _ _ _ ?_
  refine ⟨vOw v, vHd v, vSt v, vOw v', vHd v', vSt v', rfl, rfl, ?_⟩
  refine ⟨vAd v, vGa v, vAd v', vGa v', rfl, rfl, ?_⟩
  refine ⟨4, rfl, rfl, rfl, by omega, by omega, ?_⟩
  refine ⟨16, rfl, rfl, rfl, by omega, by omega, ?_⟩
  refine ⟨st0 v' ++ st10 v', ⟨rfl, rfl, eqE_rfl _, eqE_rfl _, eqE_rfl _, rfl, eqE_rfl _, eqE_rfl _, ⟨rfl, rfl, fun _ h => cpy0 h⟩, ⟨rfl, rfl, fun _ h => cpy0 h⟩, eqL_rfl _⟩, hK⟩
abbrev hs0 (H : Nat → gV) (old sz : Int32) : List gE := .inr (1, [.ref 1, .int old, .int sz]) :: .inl (5, 6, .inr (.inr (.inr [some 2, some 12, some 22, some 32, some 42, some 52]))) :: (st2 (H 0) ++ (st12 (H 1) ++ (st22 (H 2) ++ (st32 (H 3) ++ (st42 (H 4) ++ st52 (H 5))))))
def hUp (H : Nat → gV) (j : Nat) (v : gV) : Nat → gV := fun i => bif Nat.beq i j then v else H i
theorem rem6 {a : Nat} (h : a < 100) : nI a - nI a / nI 6 * nI 6 = nI (a % 6) := pk_rem (by omega) (by decide) (by decide)
def sX1_push : gS := fun av es K => ∃ H o s v, av = [.ref 0, .ref 62] ∧ o < 6 ∧ s ≤ 6 ∧ es = hs0 H (nI o) (nI s) ++ st62 v ∧ K none (hs0 (hUp H ((o + s) % 6) v) (nI (if s < 6 then o else (o + 1) % 6)) (nI (if s < 6 then s + 1 else 6)) ++ st62 v)
def rmX1_push : Room := { frames := 3, cells := 0, slots := 0, locals := 102 }
def pX1_push (K : gK) : List (Nat × gO) := [(0, oF (oALoad 0)), (1, oGet 1 0), (4, oALoad 0), (5, oGet 1 1), (8, oALoad 0), (9, oGet 1 2), (12, oAdd), (13, oConst (nI 6)), (15, oRem), (16, oAALd), (17, oALoad 1), (18, oCallVD 0 0 4 1 sX4_copyFrom), (21, oF (oALoad 0)), (22, oGet 1 2), (25, oConst (nI 6)), (27, oICmp_ge 43), (30, oALoad 0), (31, oDup), (32, oGet 1 2), (35, oConst (nI 1)), (36, oAdd), (37, oPutI 1 2), (40, oGoto 56), (43, oF (oALoad 0)), (44, oALoad 0), (45, oGet 1 1), (48, oConst (nI 1)), (49, oAdd), (50, oConst (nI 6)), (52, oRem), (53, oPutI 1 1), (56, oF (oRetV K 0 0))]
set_option maxRecDepth 100000 in
theorem kX1_push {X : gX} {l : Launch} (hM : gM X l cX1_push RX1 wsX1_push rmX1_push) {K : gK} (hE : gR X K 0 0 none) (hnL : X.2.2.2.2.2.2.2.2.2.2.2.2.2.2.2.2 = 2) : okL X (pX1_push K) := by
  obtain ⟨p, l1, e, R, s, m, args, below, meth, c, D, cA, A, ag, ad0, Q, nL⟩ := X
  cases hnL
  refine ⟨ok_F (ok_aload_n hM 0 dX1_push_0 rfl),
    ok_get (C := RX1) (T := TX1) (Nf := 3) hM (fun _ h => List.mem_cons_of_mem _ (List.mem_append_left _ (List.mem_append_left _ (List.mem_append_left _ (List.mem_append_right _ h))))) rfl 0 (by decide) (List.mem_of_getElem? (i := 1) rfl) rfl dX1_push_1,
    ok_aload_n hM 0 dX1_push_4 rfl,
    ok_get (C := RX1) (T := TX1) (Nf := 3) hM (fun _ h => List.mem_cons_of_mem _ (List.mem_append_left _ (List.mem_append_left _ (List.mem_append_left _ (List.mem_append_right _ h))))) rfl 1 (by decide) (List.mem_of_getElem? (i := 2) rfl) rfl dX1_push_5,
    ok_aload_n hM 0 dX1_push_8 rfl,
    ok_get (C := RX1) (T := TX1) (Nf := 3) hM (fun _ h => List.mem_cons_of_mem _ (List.mem_append_left _ (List.mem_append_left _ (List.mem_append_left _ (List.mem_append_right _ h))))) rfl 2 (by decide) (List.mem_of_getElem? (i := 3) rfl) rfl dX1_push_9,
    ok_iadd hM dX1_push_12,
    ok_bipush hM dX1_push_13 rfl,
    ok_irem hM dX1_push_15,
    ok_aald hM dX1_push_16,
    ok_aload_n hM 1 dX1_push_17 rfl,
    ok_callVD hM (ctX4_copyFrom l) rfl gX1_push_X4_copyFrom rfl rfl rfl (by decide +kernel) (by decide) dX1_push_18,
    ok_F (ok_aload_n hM 0 dX1_push_21 rfl),
    ok_get (C := RX1) (T := TX1) (Nf := 3) hM (fun _ h => List.mem_cons_of_mem _ (List.mem_append_left _ (List.mem_append_left _ (List.mem_append_left _ (List.mem_append_right _ h))))) rfl 2 (by decide) (List.mem_of_getElem? (i := 3) rfl) rfl dX1_push_22,
    ok_bipush hM dX1_push_25 rfl,
    ok_icmp_ge hM 43 dX1_push_27 (by decide),
    ok_aload_n hM 0 dX1_push_30 rfl,
    ok_dup hM dX1_push_31,
    ok_get (C := RX1) (T := TX1) (Nf := 3) hM (fun _ h => List.mem_cons_of_mem _ (List.mem_append_left _ (List.mem_append_left _ (List.mem_append_left _ (List.mem_append_right _ h))))) rfl 2 (by decide) (List.mem_of_getElem? (i := 3) rfl) rfl dX1_push_32,
    ok_iconst hM dX1_push_35 rfl,
    ok_iadd hM dX1_push_36,
    ok_putI (C := RX1) (T := TX1) (Nf := 3) hM (fun _ h => List.mem_cons_of_mem _ (List.mem_append_left _ (List.mem_append_left _ (List.mem_append_left _ (List.mem_append_right _ h))))) tyX1 tyX1_ok nmX1 rfl 2 (by decide) (List.mem_of_getElem? (i := 3) rfl) rfl rfl (by decide +kernel) dX1_push_37,
    ok_goto hM 56 dX1_push_40 (by decide),
    ok_F (ok_aload_n hM 0 dX1_push_43 rfl),
    ok_aload_n hM 0 dX1_push_44 rfl,
    ok_get (C := RX1) (T := TX1) (Nf := 3) hM (fun _ h => List.mem_cons_of_mem _ (List.mem_append_left _ (List.mem_append_left _ (List.mem_append_left _ (List.mem_append_right _ h))))) rfl 1 (by decide) (List.mem_of_getElem? (i := 2) rfl) rfl dX1_push_45,
    ok_iconst hM dX1_push_48 rfl,
    ok_iadd hM dX1_push_49,
    ok_bipush hM dX1_push_50 rfl,
    ok_irem hM dX1_push_52,
    ok_putI (C := RX1) (T := TX1) (Nf := 3) hM (fun _ h => List.mem_cons_of_mem _ (List.mem_append_left _ (List.mem_append_left _ (List.mem_append_left _ (List.mem_append_right _ h))))) tyX1 tyX1_ok nmX1 rfl 1 (by decide) (List.mem_of_getElem? (i := 2) rfl) rfl rfl (by decide +kernel) dX1_push_53,
    ok_F (ok_retV hM hE dX1_push_56),
    trivial⟩
set_option maxRecDepth 100000 in
theorem ctX1_push (l : Launch) : Ct l yX1_push wsX1_push rmX1_push 0 0 false sX1_push := by
  refine ct_of (own := RX1) (cc := cX1_push) (maxL := 2) (ret := none) (by decide) rfl rfl (by rintro _ _ _ ⟨H, o, s, v, rfl, ho, hs, rfl, hK⟩; exact Nat.le_of_ble_eq_true rfl) ?_
  intro X av es K hM hE hag hin hnL hsp
  obtain ⟨H, o, s, v, rfl, ho, hs, rfl, hK⟩ := hsp
  have hf := kX1_push hM hE hnL
  refine wr_ok hf cut_nil 5 0 _ _ _ _ _ ?_
  refine ⟨by decide, ?_⟩
  refine ⟨(o + s) % 6, by rw [nI_add, rem6 (by omega)], by omega, ?_⟩
  have hj : (o + s) % 6 = 0 ∨ (o + s) % 6 = 1 ∨ (o + s) % 6 = 2 ∨ (o + s) % 6 = 3 ∨ (o + s) % 6 = 4 ∨ (o + s) % 6 = 5 := by omega
  generalize (o + s) % 6 = j at hj hK
  rcases hj with rfl | rfl | rfl | rfl | rfl | rfl
  · refine ⟨[2, 3, 4, 5, 6, 7, 8, 9, 10, 11, 62, 63, 64, 65, 66, 67, 68, 69, 70, 71], rfl, H 0, v, rfl, rfl, ?_⟩
    refine ⟨fun h => ?_, fun h => ?_⟩
    · have h6 : ¬ s < 6 := by
        rw [nI_leI (by decide) (by omega)] at h
        omega
      have h7 : s = 6 := by omega
      subst h7
      rw [if_neg h6, if_neg h6] at hK
      have e9 : nI o + nI 1 - (nI o + nI 1) / nI 6 * nI 6 = nI ((o + 1) % 6) := by rw [nI_add, rem6 (by omega)]
      rw [← e9] at hK
      exact ⟨by decide, hK⟩
    · have h6 : s < 6 := by
        rw [nI_leI (by decide) (by omega)] at h
        omega
      rw [if_pos h6, if_pos h6] at hK
      rw [← nI_add] at hK
      exact hK
  · refine ⟨[12, 13, 14, 15, 16, 17, 18, 19, 20, 21, 62, 63, 64, 65, 66, 67, 68, 69, 70, 71], rfl, H 1, v, rfl, rfl, ?_⟩
    refine ⟨fun h => ?_, fun h => ?_⟩
    · have h6 : ¬ s < 6 := by
        rw [nI_leI (by decide) (by omega)] at h
        omega
      have h7 : s = 6 := by omega
      subst h7
      rw [if_neg h6, if_neg h6] at hK
      have e9 : nI o + nI 1 - (nI o + nI 1) / nI 6 * nI 6 = nI ((o + 1) % 6) := by rw [nI_add, rem6 (by omega)]
      rw [← e9] at hK
      exact ⟨by decide, hK⟩
    · have h6 : s < 6 := by
        rw [nI_leI (by decide) (by omega)] at h
        omega
      rw [if_pos h6, if_pos h6] at hK
      rw [← nI_add] at hK
      exact hK
  · refine ⟨[22, 23, 24, 25, 26, 27, 28, 29, 30, 31, 62, 63, 64, 65, 66, 67, 68, 69, 70, 71], rfl, H 2, v, rfl, rfl, ?_⟩
    refine ⟨fun h => ?_, fun h => ?_⟩
    · have h6 : ¬ s < 6 := by
        rw [nI_leI (by decide) (by omega)] at h
        omega
      have h7 : s = 6 := by omega
      subst h7
      rw [if_neg h6, if_neg h6] at hK
      have e9 : nI o + nI 1 - (nI o + nI 1) / nI 6 * nI 6 = nI ((o + 1) % 6) := by rw [nI_add, rem6 (by omega)]
      rw [← e9] at hK
      exact ⟨by decide, hK⟩
    · have h6 : s < 6 := by
        rw [nI_leI (by decide) (by omega)] at h
        omega
      rw [if_pos h6, if_pos h6] at hK
      rw [← nI_add] at hK
      exact hK
  · refine ⟨[32, 33, 34, 35, 36, 37, 38, 39, 40, 41, 62, 63, 64, 65, 66, 67, 68, 69, 70, 71], rfl, H 3, v, rfl, rfl, ?_⟩
    refine ⟨fun h => ?_, fun h => ?_⟩
    · have h6 : ¬ s < 6 := by
        rw [nI_leI (by decide) (by omega)] at h
        omega
      have h7 : s = 6 := by omega
      subst h7
      rw [if_neg h6, if_neg h6] at hK
      have e9 : nI o + nI 1 - (nI o + nI 1) / nI 6 * nI 6 = nI ((o + 1) % 6) := by rw [nI_add, rem6 (by omega)]
      rw [← e9] at hK
      exact ⟨by decide, hK⟩
    · have h6 : s < 6 := by
        rw [nI_leI (by decide) (by omega)] at h
        omega
      rw [if_pos h6, if_pos h6] at hK
      rw [← nI_add] at hK
      exact hK
  · refine ⟨[42, 43, 44, 45, 46, 47, 48, 49, 50, 51, 62, 63, 64, 65, 66, 67, 68, 69, 70, 71], rfl, H 4, v, rfl, rfl, ?_⟩
    refine ⟨fun h => ?_, fun h => ?_⟩
    · have h6 : ¬ s < 6 := by
        rw [nI_leI (by decide) (by omega)] at h
        omega
      have h7 : s = 6 := by omega
      subst h7
      rw [if_neg h6, if_neg h6] at hK
      have e9 : nI o + nI 1 - (nI o + nI 1) / nI 6 * nI 6 = nI ((o + 1) % 6) := by rw [nI_add, rem6 (by omega)]
      rw [← e9] at hK
      exact ⟨by decide, hK⟩
    · have h6 : s < 6 := by
        rw [nI_leI (by decide) (by omega)] at h
        omega
      rw [if_pos h6, if_pos h6] at hK
      rw [← nI_add] at hK
      exact hK
  · refine ⟨[52, 53, 54, 55, 56, 57, 58, 59, 60, 61, 62, 63, 64, 65, 66, 67, 68, 69, 70, 71], rfl, H 5, v, rfl, rfl, ?_⟩
    refine ⟨fun h => ?_, fun h => ?_⟩
    · have h6 : ¬ s < 6 := by
        rw [nI_leI (by decide) (by omega)] at h
        omega
      have h7 : s = 6 := by omega
      subst h7
      rw [if_neg h6, if_neg h6] at hK
      have e9 : nI o + nI 1 - (nI o + nI 1) / nI 6 * nI 6 = nI ((o + 1) % 6) := by rw [nI_add, rem6 (by omega)]
      rw [← e9] at hK
      exact ⟨by decide, hK⟩
    · have h6 : s < 6 := by
        rw [nI_leI (by decide) (by omega)] at h
        omega
      rw [if_pos h6, if_pos h6] at hK
      rw [← nI_add] at hK
      exact hK
end MS

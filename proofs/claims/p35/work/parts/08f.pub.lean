/-! PartitionedCache: more public methods. -/
section MQ5
def sX6_line : gSX := fun av es K KX => ∃ x y v wy n ch H o s r, av = [.ref 0, .int x, .int y] ∧ o < 6 ∧ s ≤ 6 ∧ es = wX v wy n ch H o s r ∧ (∀ t w, t < 4 → w < 8 → x = nI t → y = nI w → K (some (.int (vHd v (t * 8 + w)))) es) ∧ (¬ inI x 4 → KX "java/lang/IndexOutOfBoundsException" (wX v wy n ch H o s r)) ∧ (inI x 4 → ¬ inI y 8 → KX "java/lang/IndexOutOfBoundsException" (wX v wy n ch H o s r))
def rmX6_line : Room := { frames := 7, cells := 2, slots := 12, locals := 111 }
def pX6_line (K : gK) (KX : gKX) : List (Nat × gO) := [(0, oFR 17 (oILoad 1)), (1, oConst (nI 4)), (2, oCallSX 2 12 2 12 1 6 2 [] sX6_requireIndex KX), (5, oFR 17 (oILoad 2)), (6, oConst (nI 8)), (8, oCallSX 2 12 2 12 1 6 2 [] sX6_requireIndex KX), (11, oFR 17 (oALoad 0)), (12, oGet 6 0), (15, oGet 4 0), (18, oGet 3 1), (21, oILoad 1), (22, oConst (nI 8)), (24, oMul), (25, oILoad 2), (26, oAdd), (27, oIALd 0), (28, oRet K 2 12)]
set_option maxRecDepth 100000 in
theorem kX6_line {X : gX} {l : Launch} (hM : gM X l cX6_line RX6 wsX6_line rmX6_line) {K : gK} (hE : gR X K 2 12 (some .int)) {KX : gKX} (hX : gRX X KX 2 12) (hl : l.stackTraces = false) (hnL : X.2.2.2.2.2.2.2.2.2.2.2.2.2.2.2.2 = 3) : okL X (pX6_line K KX) := by
  obtain ⟨p, l1, e, R, s, m, args, below, meth, c, D, cA, A, ag, ad0, Q, nL⟩ := X
  cases hnL
  refine ⟨ok_FR (ok_iload_n hM 1 dX6_line_0 rfl),
    ok_iconst hM dX6_line_1 rfl,
    ok_callSX hM hX [] (ctX6_requireIndex l hl) rfl gX6_line_X6_requireIndex rfl rfl rfl (by decide +kernel) (by decide) dX6_line_2,
    ok_FR (ok_iload_n hM 2 dX6_line_5 rfl),
    ok_bipush hM dX6_line_6 rfl,
    ok_callSX hM hX [] (ctX6_requireIndex l hl) rfl gX6_line_X6_requireIndex rfl rfl rfl (by decide +kernel) (by decide) dX6_line_8,
    ok_FR (ok_aload_n hM 0 dX6_line_11 rfl),
    ok_get (C := RX6) (T := TX6) (Nf := 6) hM (fun _ h => List.mem_cons_of_mem _ (List.mem_append_left _ (List.mem_append_left _ (List.mem_append_left _ (List.mem_append_right _ h))))) rfl 0 (by decide) (List.mem_of_getElem? (i := 1) rfl) rfl dX6_line_12,
    ok_get (C := RX4) (T := TX4) (Nf := 6) hM (fun _ h => List.mem_cons_of_mem _ (List.mem_append_left _ (List.mem_append_left _ (List.mem_append_right _ h)))) rfl 0 (by decide) (List.mem_of_getElem? (i := 2) rfl) rfl dX6_line_15,
    ok_get (C := RX3) (T := TX3) (Nf := 3) hM (fun _ h => List.mem_cons_of_mem _ (List.mem_append_left _ (List.mem_append_right _ h))) rfl 1 (by decide) (List.mem_of_getElem? (i := 3) rfl) rfl dX6_line_18,
    ok_iload_n hM 1 dX6_line_21 rfl,
    ok_bipush hM dX6_line_22 rfl,
    ok_imul hM dX6_line_24,
    ok_iload_n hM 2 dX6_line_25 rfl,
    ok_iadd hM dX6_line_26,
    ok_iald hM dX6_line_27,
    ok_ret hM hE dX6_line_28,
    trivial⟩
set_option maxRecDepth 100000 in
theorem ctX6_line (l : Launch) (hl : l.stackTraces = false) : CtX l yX6_line wsX6_line rmX6_line 2 12 sX6_line := by
  refine ctX_of (own := RX6) (cc := cX6_line) (maxL := 3) (ret := (some .int)) (by decide) rfl rfl (by rintro _ _ _ _ ⟨x, y, v, wy, n, ch, H, o, s, r, rfl, ho, hs, rfl, hK, hX0, hX1⟩; exact Nat.le_of_ble_eq_true rfl) ?_
  intro X av es K KX hM hE hX hnL hsp
  obtain ⟨x, y, v, wy, n, ch, H, o, s, r, rfl, ho, hs, rfl, hK, hX0, hX1⟩ := hsp
  have hf := kX6_line hM hE hX hl hnL
  refine wr_ok hf cut_nil 5 0 _ _ _ _ _ ?_
  refine ⟨_, _, 4, rfl, rfl, by decide, rfl, fun t ht et => ?_, fun q => ?_⟩
  · subst et
    refine ⟨_, _, 8, rfl, rfl, by decide, rfl, fun w hw ew => ?_, fun q => ?_⟩
    · subst ew
      exact ⟨t * 8 + w, by rw [pk_mul, nI_add], by omega, hK t w ht hw rfl rfl⟩
    · exact hX1 ⟨t, ht, rfl⟩ q
  · exact hX0  q
def sX6_ifAccessed : gSX := fun av es K KX => ∃ x y v wy n ch H o s r, av = [.ref 0, .int x, .int y] ∧ o < 6 ∧ s ≤ 6 ∧ es = wX v wy n ch H o s r ∧ (∀ t a, t < 4 → a ≤ 255 → x = nI t → y = nI a → K (some (.int (nI (acR v t a)))) es) ∧ (¬ inI x 4 → KX "java/lang/IndexOutOfBoundsException" (wX v wy n ch H o s r)) ∧ (inI x 4 → ¬ inA y 0 255 → KX "java/lang/IllegalArgumentException" (wX v wy n ch H o s r))
def rmX6_ifAccessed : Room := { frames := 8, cells := 2, slots := 12, locals := 131 }
def pX6_ifAccessed (K : gK) (KX : gKX) : List (Nat × gO) := [(0, oFR 17 (oILoad 1)), (1, oCallSX 2 12 2 12 1 6 1 [] sX6_requireTenant KX), (4, oFR 17 (oILoad 2)), (5, oConst (nI 0)), (6, oConst (nI 255)), (9, oCallSX 2 12 2 12 1 6 3 [] sX6_requireArgument KX), (12, oFR 17 (oALoad 0)), (13, oGet 6 0), (16, oGet 4 0), (19, oILoad 1), (20, oILoad 2), (21, oCallVR 17 2 12 3 2 [2,3,4,5] sX3_resultOf), (24, oFR 17 (oRet K 2 12))]
set_option maxRecDepth 100000 in
theorem kX6_ifAccessed {X : gX} {l : Launch} (hM : gM X l cX6_ifAccessed RX6 wsX6_ifAccessed rmX6_ifAccessed) {K : gK} (hE : gR X K 2 12 (some .int)) {KX : gKX} (hX : gRX X KX 2 12) (hl : l.stackTraces = false) (hnL : X.2.2.2.2.2.2.2.2.2.2.2.2.2.2.2.2 = 3) : okL X (pX6_ifAccessed K KX) := by
  obtain ⟨p, l1, e, R, s, m, args, below, meth, c, D, cA, A, ag, ad0, Q, nL⟩ := X
  cases hnL
  refine ⟨ok_FR (ok_iload_n hM 1 dX6_ifAccessed_0 rfl),
    ok_callSX hM hX [] (ctX6_requireTenant l hl) rfl gX6_ifAccessed_X6_requireTenant rfl rfl rfl (by decide +kernel) (by decide) dX6_ifAccessed_1,
    ok_FR (ok_iload_n hM 2 dX6_ifAccessed_4 rfl),
    ok_iconst hM dX6_ifAccessed_5 rfl,
    ok_sipush hM dX6_ifAccessed_6 rfl,
    ok_callSX hM hX [] (ctX6_requireArgument l hl) rfl gX6_ifAccessed_X6_requireArgument rfl rfl rfl (by decide +kernel) (by decide) dX6_ifAccessed_9,
    ok_FR (ok_aload_n hM 0 dX6_ifAccessed_12 rfl),
    ok_get (C := RX6) (T := TX6) (Nf := 6) hM (fun _ h => List.mem_cons_of_mem _ (List.mem_append_left _ (List.mem_append_left _ (List.mem_append_left _ (List.mem_append_left _ (List.mem_append_right _ h)))))) rfl 0 (by decide) (List.mem_of_getElem? (i := 1) rfl) rfl dX6_ifAccessed_13,
    ok_get (C := RX4) (T := TX4) (Nf := 6) hM (fun _ h => List.mem_cons_of_mem _ (List.mem_append_left _ (List.mem_append_left _ (List.mem_append_left _ (List.mem_append_right _ h))))) rfl 0 (by decide) (List.mem_of_getElem? (i := 2) rfl) rfl dX6_ifAccessed_16,
    ok_iload_n hM 1 dX6_ifAccessed_19 rfl,
    ok_iload_n hM 2 dX6_ifAccessed_20 rfl,
    ok_R (ok_callV hM [2,3,4,5] (ctX3_resultOf l) rfl rfl gX6_ifAccessed_X3_resultOf rfl rfl rfl (by decide +kernel) (by decide) dX6_ifAccessed_21),
    ok_FR (ok_ret hM hE dX6_ifAccessed_24),
    trivial⟩
set_option maxRecDepth 100000 in
theorem ctX6_ifAccessed (l : Launch) (hl : l.stackTraces = false) : CtX l yX6_ifAccessed wsX6_ifAccessed rmX6_ifAccessed 2 12 sX6_ifAccessed := by
  refine ctX_of (own := RX6) (cc := cX6_ifAccessed) (maxL := 3) (ret := (some .int)) (by decide) rfl rfl (by rintro _ _ _ _ ⟨x, y, v, wy, n, ch, H, o, s, r, rfl, ho, hs, rfl, hK, hX0, hX1⟩; exact Nat.le_of_ble_eq_true rfl) ?_
  intro X av es K KX hM hE hX hnL hsp
  obtain ⟨x, y, v, wy, n, ch, H, o, s, r, rfl, ho, hs, rfl, hK, hX0, hX1⟩ := hsp
  have hf := kX6_ifAccessed hM hE hX hl hnL
  refine wr_ok hf cut_nil 5 0 _ _ _ _ _ ?_
  refine ⟨_, rfl, rfl, fun t ht et => ?_, fun q => ?_⟩
  · subst et
    refine ⟨_, _, _, 0, 255, rfl, rfl, rfl, by decide, by decide, rfl, fun a ha0 ha ea => ?_, fun q => ?_⟩
    · subst ea
      refine ⟨_, _, a, vOw v, vHd v, vSt v, rfl, rfl, by omega, rfl, ?_⟩
      exact hK t a ht ha rfl rfl
    · exact hX1 ⟨t, ht, rfl⟩ q
  · exact hX0  q
/-- the line that an access would put out -/
def vcR (v : gV) (t a : Nat) : Int32 := if acR v t a = 0 then (match ptP v t a with | none => -1 | some p => vHd v p) else -1
def sX6_victim : gSX := fun av es K KX => ∃ x y v wy n ch H o s r, av = [.ref 0, .int x, .int y] ∧ o < 6 ∧ s ≤ 6 ∧ es = wX v wy n ch H o s r ∧ (∀ t a, t < 4 → a ≤ 255 → x = nI t → y = nI a → K (some (.int (vcR v t a))) es) ∧ (¬ inI x 4 → KX "java/lang/IndexOutOfBoundsException" (wX v wy n ch H o s r)) ∧ (inI x 4 → ¬ inA y 0 255 → KX "java/lang/IllegalArgumentException" (wX v wy n ch H o s r))
def rmX6_victim : Room := { frames := 8, cells := 2, slots := 12, locals := 131 }
def pX6_victim (K : gK) (KX : gKX) : List (Nat × gO) := [(0, oFR 17 (oILoad 1)), (1, oCallSX 2 12 2 12 1 6 1 [] sX6_requireTenant KX), (4, oFR 17 (oILoad 2)), (5, oConst (nI 0)), (6, oConst (nI 255)), (9, oCallSX 2 12 2 12 1 6 3 [] sX6_requireArgument KX), (12, oFR 17 (oALoad 0)), (13, oGet 6 0), (16, oGet 4 0), (19, oILoad 1), (20, oILoad 2), (21, oCallVR 17 2 12 3 2 [2,3,4,5] sX3_resultOf), (24, oFR 17 (oIf_eq 29)), (27, oConst (-1)), (28, oRet K 2 12), (29, oALoad 0), (30, oGet 6 0), (33, oGet 4 0), (36, oILoad 1), (37, oILoad 2), (38, oCallVR 17 2 12 3 2 [2,3,4,5] sX3_placeToFill), (41, oFR 17 (oIStore 4 3)), (42, oFR 17 (oILoad 3)), (43, oConst (-1)), (44, oICmp_ne 51), (47, oConst (-1)), (48, oGoto 63), (51, oALoad 0), (52, oGet 6 0), (55, oGet 4 0), (58, oGet 3 1), (61, oILoad 3), (62, oIALd 0), (63, oRet K 2 12)]
set_option maxRecDepth 100000 in
theorem kX6_victim {X : gX} {l : Launch} (hM : gM X l cX6_victim RX6 wsX6_victim rmX6_victim) {K : gK} (hE : gR X K 2 12 (some .int)) {KX : gKX} (hX : gRX X KX 2 12) (hl : l.stackTraces = false) (hnL : X.2.2.2.2.2.2.2.2.2.2.2.2.2.2.2.2 = 4) : okL X (pX6_victim K KX) := by
  obtain ⟨p, l1, e, R, s, m, args, below, meth, c, D, cA, A, ag, ad0, Q, nL⟩ := X
  cases hnL
  refine ⟨ok_FR (ok_iload_n hM 1 dX6_victim_0 rfl),
    ok_callSX hM hX [] (ctX6_requireTenant l hl) rfl gX6_victim_X6_requireTenant rfl rfl rfl (by decide +kernel) (by decide) dX6_victim_1,
    ok_FR (ok_iload_n hM 2 dX6_victim_4 rfl),
    ok_iconst hM dX6_victim_5 rfl,
    ok_sipush hM dX6_victim_6 rfl,
    ok_callSX hM hX [] (ctX6_requireArgument l hl) rfl gX6_victim_X6_requireArgument rfl rfl rfl (by decide +kernel) (by decide) dX6_victim_9,
    ok_FR (ok_aload_n hM 0 dX6_victim_12 rfl),
    ok_get (C := RX6) (T := TX6) (Nf := 6) hM (fun _ h => List.mem_cons_of_mem _ (List.mem_append_left _ (List.mem_append_left _ (List.mem_append_left _ (List.mem_append_left _ (List.mem_append_right _ h)))))) rfl 0 (by decide) (List.mem_of_getElem? (i := 1) rfl) rfl dX6_victim_13,
    ok_get (C := RX4) (T := TX4) (Nf := 6) hM (fun _ h => List.mem_cons_of_mem _ (List.mem_append_left _ (List.mem_append_left _ (List.mem_append_left _ (List.mem_append_right _ h))))) rfl 0 (by decide) (List.mem_of_getElem? (i := 2) rfl) rfl dX6_victim_16,
    ok_iload_n hM 1 dX6_victim_19 rfl,
    ok_iload_n hM 2 dX6_victim_20 rfl,
    ok_R (ok_callV hM [2,3,4,5] (ctX3_resultOf l) rfl rfl gX6_victim_X3_resultOf rfl rfl rfl (by decide +kernel) (by decide) dX6_victim_21),
    ok_FR (ok_if_eq hM 29 dX6_victim_24 (by decide)),
    ok_iconst hM dX6_victim_27 rfl,
    ok_ret hM hE dX6_victim_28,
    ok_aload_n hM 0 dX6_victim_29 rfl,
    ok_get (C := RX6) (T := TX6) (Nf := 6) hM (fun _ h => List.mem_cons_of_mem _ (List.mem_append_left _ (List.mem_append_left _ (List.mem_append_left _ (List.mem_append_left _ (List.mem_append_right _ h)))))) rfl 0 (by decide) (List.mem_of_getElem? (i := 1) rfl) rfl dX6_victim_30,
    ok_get (C := RX4) (T := TX4) (Nf := 6) hM (fun _ h => List.mem_cons_of_mem _ (List.mem_append_left _ (List.mem_append_left _ (List.mem_append_left _ (List.mem_append_right _ h))))) rfl 0 (by decide) (List.mem_of_getElem? (i := 2) rfl) rfl dX6_victim_33,
    ok_iload_n hM 1 dX6_victim_36 rfl,
    ok_iload_n hM 2 dX6_victim_37 rfl,
    ok_R (ok_callV hM [2,3,4,5] (ctX3_placeToFill l) rfl rfl gX6_victim_X3_placeToFill rfl rfl rfl (by decide +kernel) (by decide) dX6_victim_38),
    ok_FR (ok_istore_n hM 3 dX6_victim_41 rfl),
    ok_FR (ok_iload_n hM 3 dX6_victim_42 rfl),
    ok_iconst hM dX6_victim_43 rfl,
    ok_icmp_ne hM 51 dX6_victim_44 (by decide),
    ok_iconst hM dX6_victim_47 rfl,
    ok_goto hM 63 dX6_victim_48 (by decide),
    ok_aload_n hM 0 dX6_victim_51 rfl,
    ok_get (C := RX6) (T := TX6) (Nf := 6) hM (fun _ h => List.mem_cons_of_mem _ (List.mem_append_left _ (List.mem_append_left _ (List.mem_append_left _ (List.mem_append_left _ (List.mem_append_right _ h)))))) rfl 0 (by decide) (List.mem_of_getElem? (i := 1) rfl) rfl dX6_victim_52,
    ok_get (C := RX4) (T := TX4) (Nf := 6) hM (fun _ h => List.mem_cons_of_mem _ (List.mem_append_left _ (List.mem_append_left _ (List.mem_append_left _ (List.mem_append_right _ h))))) rfl 0 (by decide) (List.mem_of_getElem? (i := 2) rfl) rfl dX6_victim_55,
    ok_get (C := RX3) (T := TX3) (Nf := 3) hM (fun _ h => List.mem_cons_of_mem _ (List.mem_append_left _ (List.mem_append_left _ (List.mem_append_right _ h)))) rfl 1 (by decide) (List.mem_of_getElem? (i := 3) rfl) rfl dX6_victim_58,
    ok_iload_n hM 3 dX6_victim_61 rfl,
    ok_iald hM dX6_victim_62,
    ok_ret hM hE dX6_victim_63,
    trivial⟩
set_option maxRecDepth 100000 in
theorem ctX6_victim (l : Launch) (hl : l.stackTraces = false) : CtX l yX6_victim wsX6_victim rmX6_victim 2 12 sX6_victim := by
  refine ctX_of (own := RX6) (cc := cX6_victim) (maxL := 4) (ret := (some .int)) (by decide) rfl rfl (by rintro _ _ _ _ ⟨x, y, v, wy, n, ch, H, o, s, r, rfl, ho, hs, rfl, hK, hX0, hX1⟩; exact Nat.le_of_ble_eq_true rfl) ?_
  intro X av es K KX hM hE hX hnL hsp
  obtain ⟨x, y, v, wy, n, ch, H, o, s, r, rfl, ho, hs, rfl, hK, hX0, hX1⟩ := hsp
  have hf := kX6_victim hM hE hX hl hnL
  refine wr_ok hf cut_nil 5 0 _ _ _ _ _ ?_
  refine ⟨_, rfl, rfl, fun t ht et => ?_, fun q => ?_⟩
  · subst et
    refine ⟨_, _, _, 0, 255, rfl, rfl, rfl, by decide, by decide, rfl, fun a ha0 ha ea => ?_, fun q => ?_⟩
    · subst ea
      have hr2 : acR v t a ≤ 2 := rsl_le _ _ _ _
      have hlt : ∀ p, ptP v t a = some p → p < 32 := fun p hp => ptf_lt (by omega) 8 0 none p (by omega) (fun q hq => by cases hq) hp
      have hno : oI (ptP v t a) = -1 ↔ ptP v t a = none := oI_ne (fun p hp => by have := hlt p hp; omega)
      have hK := hK t a ht ha rfl rfl
      unfold vcR at hK
      refine ⟨_, _, a, vOw v, vHd v, vSt v, rfl, rfl, by omega, rfl, ?_⟩
      refine ⟨fun h1 => ?_, fun h1 => ?_⟩
      · have h1 : nI (acR v t a) = nI 0 := h1
        have h2 : acR v t a = 0 := (nI_eq (by omega) (by decide)).mp h1
        rw [if_pos h2] at hK
        refine ⟨_, _, a, vOw v, vHd v, vSt v, rfl, rfl, by omega, rfl, ?_⟩
        refine ⟨fun h3 => ?_, fun h3 => ?_⟩
        · obtain ⟨p, hp⟩ : ∃ p, ptP v t a = some p := by
            cases hq : ptP v t a with
            | none => exact absurd (hno.mpr hq) h3
            | some p => exact ⟨p, rfl⟩
          rw [hp] at hK
          exact ⟨p, congrArg oI hp, hlt p hp, hK⟩
        · rw [hno.mp h3] at hK
          exact hK
      · rw [if_neg (fun q => h1 (by show nI (acR v t a) = nI 0; rw [q]))] at hK
        exact hK
    · exact hX1 ⟨t, ht, rfl⟩ q
  · exact hX0  q
def sX6_gain : gSX := fun av es K KX => ∃ x y v wy n ch H o s r, av = [.ref 0, .int x, .int y] ∧ o < 6 ∧ s ≤ 6 ∧ es = wX v wy n ch H o s r ∧ (∀ t w, t < 4 → w < 8 → x = nI t → y = nI w → K (some (.int (vGa v (t * 8 + w)))) es) ∧ (¬ inI x 4 → KX "java/lang/IndexOutOfBoundsException" (wX v wy n ch H o s r)) ∧ (inI x 4 → ¬ inI y 8 → KX "java/lang/IndexOutOfBoundsException" (wX v wy n ch H o s r))
def rmX6_gain : Room := { frames := 8, cells := 2, slots := 12, locals := 131 }
def pX6_gain (K : gK) (KX : gKX) : List (Nat × gO) := [(0, oFR 17 (oILoad 1)), (1, oCallSX 2 12 2 12 1 6 1 [] sX6_requireTenant KX), (4, oFR 17 (oILoad 2)), (5, oConst (nI 8)), (7, oCallSX 2 12 2 12 1 6 2 [] sX6_requireIndex KX), (10, oFR 17 (oALoad 0)), (11, oGet 6 0), (14, oGet 4 1), (17, oGet 2 1), (20, oILoad 1), (21, oConst (nI 8)), (23, oMul), (24, oILoad 2), (25, oAdd), (26, oIALd 0), (27, oRet K 2 12)]
set_option maxRecDepth 100000 in
theorem kX6_gain {X : gX} {l : Launch} (hM : gM X l cX6_gain RX6 wsX6_gain rmX6_gain) {K : gK} (hE : gR X K 2 12 (some .int)) {KX : gKX} (hX : gRX X KX 2 12) (hl : l.stackTraces = false) (hnL : X.2.2.2.2.2.2.2.2.2.2.2.2.2.2.2.2 = 3) : okL X (pX6_gain K KX) := by
  obtain ⟨p, l1, e, R, s, m, args, below, meth, c, D, cA, A, ag, ad0, Q, nL⟩ := X
  cases hnL
  refine ⟨ok_FR (ok_iload_n hM 1 dX6_gain_0 rfl),
    ok_callSX hM hX [] (ctX6_requireTenant l hl) rfl gX6_gain_X6_requireTenant rfl rfl rfl (by decide +kernel) (by decide) dX6_gain_1,
    ok_FR (ok_iload_n hM 2 dX6_gain_4 rfl),
    ok_bipush hM dX6_gain_5 rfl,
    ok_callSX hM hX [] (ctX6_requireIndex l hl) rfl gX6_gain_X6_requireIndex rfl rfl rfl (by decide +kernel) (by decide) dX6_gain_7,
    ok_FR (ok_aload_n hM 0 dX6_gain_10 rfl),
    ok_get (C := RX6) (T := TX6) (Nf := 6) hM (fun _ h => List.mem_cons_of_mem _ (List.mem_append_left _ (List.mem_append_left _ (List.mem_append_left _ (List.mem_append_right _ h))))) rfl 0 (by decide) (List.mem_of_getElem? (i := 1) rfl) rfl dX6_gain_11,
    ok_get (C := RX4) (T := TX4) (Nf := 6) hM (fun _ h => List.mem_cons_of_mem _ (List.mem_append_left _ (List.mem_append_left _ (List.mem_append_right _ h)))) rfl 1 (by decide) (List.mem_of_getElem? (i := 2) rfl) rfl dX6_gain_14,
    ok_get (C := RX2) (T := TX2) (Nf := 2) hM (fun _ h => List.mem_cons_of_mem _ (List.mem_append_left _ (List.mem_append_right _ h))) rfl 1 (by decide) (List.mem_of_getElem? (i := 3) rfl) rfl dX6_gain_17,
    ok_iload_n hM 1 dX6_gain_20 rfl,
    ok_bipush hM dX6_gain_21 rfl,
    ok_imul hM dX6_gain_23,
    ok_iload_n hM 2 dX6_gain_24 rfl,
    ok_iadd hM dX6_gain_25,
    ok_iald hM dX6_gain_26,
    ok_ret hM hE dX6_gain_27,
    trivial⟩
set_option maxRecDepth 100000 in
theorem ctX6_gain (l : Launch) (hl : l.stackTraces = false) : CtX l yX6_gain wsX6_gain rmX6_gain 2 12 sX6_gain := by
  refine ctX_of (own := RX6) (cc := cX6_gain) (maxL := 3) (ret := (some .int)) (by decide) rfl rfl (by rintro _ _ _ _ ⟨x, y, v, wy, n, ch, H, o, s, r, rfl, ho, hs, rfl, hK, hX0, hX1⟩; exact Nat.le_of_ble_eq_true rfl) ?_
  intro X av es K KX hM hE hX hnL hsp
  obtain ⟨x, y, v, wy, n, ch, H, o, s, r, rfl, ho, hs, rfl, hK, hX0, hX1⟩ := hsp
  have hf := kX6_gain hM hE hX hl hnL
  refine wr_ok hf cut_nil 5 0 _ _ _ _ _ ?_
  refine ⟨_, rfl, rfl, fun t ht et => ?_, fun q => ?_⟩
  · subst et
    refine ⟨_, _, 8, rfl, rfl, by decide, rfl, fun w hw ew => ?_, fun q => ?_⟩
    · subst ew
      exact ⟨t * 8 + w, by rw [pk_mul, nI_add], by omega, hK t w ht hw rfl rfl⟩
    · exact hX1 ⟨t, ht, rfl⟩ q
  · exact hX0  q
def sX6_utility : gSX := fun av es K KX => ∃ x y v wy n ch H o s r, av = [.ref 0, .int x, .int y] ∧ o < 6 ∧ s ≤ 6 ∧ es = wX v wy n ch H o s r ∧ (∀ t w, t < 4 → w ≤ 8 → x = nI t → y = nI w → K (some (.int (sumI (fun p => vGa v (t * 8 + p)) w))) es) ∧ (¬ inI x 4 → KX "java/lang/IndexOutOfBoundsException" (wX v wy n ch H o s r)) ∧ (inI x 4 → ¬ inA y 0 8 → KX "java/lang/IllegalArgumentException" (wX v wy n ch H o s r))
def rmX6_utility : Room := { frames := 8, cells := 2, slots := 12, locals := 131 }
def pX6_utility (K : gK) (KX : gKX) : List (Nat × gO) := [(0, oFR 17 (oILoad 1)), (1, oCallSX 2 12 2 12 1 6 1 [] sX6_requireTenant KX), (4, oFR 17 (oILoad 2)), (5, oConst (nI 0)), (6, oConst (nI 8)), (8, oCallSX 2 12 2 12 1 6 3 [] sX6_requireArgument KX), (11, oFR 17 (oALoad 0)), (12, oGet 6 0), (15, oGet 4 1), (18, oILoad 1), (19, oILoad 2), (20, oCallVR 17 2 12 2 2 [6,7,8] sX2_utilityOf), (23, oFR 17 (oRet K 2 12))]
set_option maxRecDepth 100000 in
theorem kX6_utility {X : gX} {l : Launch} (hM : gM X l cX6_utility RX6 wsX6_utility rmX6_utility) {K : gK} (hE : gR X K 2 12 (some .int)) {KX : gKX} (hX : gRX X KX 2 12) (hl : l.stackTraces = false) (hnL : X.2.2.2.2.2.2.2.2.2.2.2.2.2.2.2.2 = 3) : okL X (pX6_utility K KX) := by
  obtain ⟨p, l1, e, R, s, m, args, below, meth, c, D, cA, A, ag, ad0, Q, nL⟩ := X
  cases hnL
  refine ⟨ok_FR (ok_iload_n hM 1 dX6_utility_0 rfl),
    ok_callSX hM hX [] (ctX6_requireTenant l hl) rfl gX6_utility_X6_requireTenant rfl rfl rfl (by decide +kernel) (by decide) dX6_utility_1,
    ok_FR (ok_iload_n hM 2 dX6_utility_4 rfl),
    ok_iconst hM dX6_utility_5 rfl,
    ok_bipush hM dX6_utility_6 rfl,
    ok_callSX hM hX [] (ctX6_requireArgument l hl) rfl gX6_utility_X6_requireArgument rfl rfl rfl (by decide +kernel) (by decide) dX6_utility_8,
    ok_FR (ok_aload_n hM 0 dX6_utility_11 rfl),
    ok_get (C := RX6) (T := TX6) (Nf := 6) hM (fun _ h => List.mem_cons_of_mem _ (List.mem_append_left _ (List.mem_append_left _ (List.mem_append_left _ (List.mem_append_left _ (List.mem_append_right _ h)))))) rfl 0 (by decide) (List.mem_of_getElem? (i := 1) rfl) rfl dX6_utility_12,
    ok_get (C := RX4) (T := TX4) (Nf := 6) hM (fun _ h => List.mem_cons_of_mem _ (List.mem_append_left _ (List.mem_append_left _ (List.mem_append_left _ (List.mem_append_right _ h))))) rfl 1 (by decide) (List.mem_of_getElem? (i := 2) rfl) rfl dX6_utility_15,
    ok_iload_n hM 1 dX6_utility_18 rfl,
    ok_iload_n hM 2 dX6_utility_19 rfl,
    ok_R (ok_callV hM [6,7,8] (ctX2_utilityOf l) rfl rfl gX6_utility_X2_utilityOf rfl rfl rfl (by decide +kernel) (by decide) dX6_utility_20),
    ok_FR (ok_ret hM hE dX6_utility_23),
    trivial⟩
set_option maxRecDepth 100000 in
theorem ctX6_utility (l : Launch) (hl : l.stackTraces = false) : CtX l yX6_utility wsX6_utility rmX6_utility 2 12 sX6_utility := by
  refine ctX_of (own := RX6) (cc := cX6_utility) (maxL := 3) (ret := (some .int)) (by decide) rfl rfl (by rintro _ _ _ _ ⟨x, y, v, wy, n, ch, H, o, s, r, rfl, ho, hs, rfl, hK, hX0, hX1⟩; exact Nat.le_of_ble_eq_true rfl) ?_
  intro X av es K KX hM hE hX hnL hsp
  obtain ⟨x, y, v, wy, n, ch, H, o, s, r, rfl, ho, hs, rfl, hK, hX0, hX1⟩ := hsp
  have hf := kX6_utility hM hE hX hl hnL
  refine wr_ok hf cut_nil 5 0 _ _ _ _ _ ?_
  refine ⟨_, rfl, rfl, fun t ht et => ?_, fun q => ?_⟩
  · subst et
    refine ⟨_, _, _, 0, 8, rfl, rfl, rfl, by decide, by decide, rfl, fun w hw0 hw ew => ?_, fun q => ?_⟩
    · subst ew
      refine ⟨_, _, t, w, vAd v, vGa v, rfl, rfl, rfl, ht, hw, rfl, ?_⟩
      exact hK t w ht hw rfl rfl
    · exact hX1 ⟨t, ht, rfl⟩ q
  · exact hX0  q
def sX6_target : gSX := fun av es K KX => ∃ x v wy n ch H o s r L, av = [.ref 0, .int x] ∧ o < 6 ∧ s ≤ 6 ∧ (∀ t, t < 4 → vLe v t = nI (L t) ∧ L t ≤ 2) ∧ es = wX v wy n ch H o s r ∧ (∀ t, t < 4 → x = nI t → K (some (.int (nI (tgt L (vGa v) t)))) (wX v (nF (tgt L (vGa v))) n ch H o s r)) ∧ (¬ inI x 4 → KX "java/lang/IndexOutOfBoundsException" (wX v wy n ch H o s r))
def rmX6_target : Room := { frames := 8, cells := 1, slots := 6, locals := 131 }
def pX6_target (K : gK) (KX : gKX) : List (Nat × gO) := [(0, oFR 17 (oILoad 1)), (1, oCallSX 1 6 1 6 1 6 1 [] sX6_requireTenant KX), (4, oFR 17 (oALoad 0)), (5, oGet 6 1), (8, oALoad 0), (9, oGet 6 0), (12, oCallVR 17 1 6 5 1 [11,12,1,2,3,4,5,6,7,8,9,10] sX5_compute), (15, oFR 17 (oALoad 0)), (16, oGet 6 1), (19, oGet 5 0), (22, oILoad 1), (23, oIALd 0), (24, oRet K 1 6)]
set_option maxRecDepth 100000 in
theorem kX6_target {X : gX} {l : Launch} (hM : gM X l cX6_target RX6 wsX6_target rmX6_target) {K : gK} (hE : gR X K 1 6 (some .int)) {KX : gKX} (hX : gRX X KX 1 6) (hl : l.stackTraces = false) (hnL : X.2.2.2.2.2.2.2.2.2.2.2.2.2.2.2.2 = 2) : okL X (pX6_target K KX) := by
  obtain ⟨p, l1, e, R, s, m, args, below, meth, c, D, cA, A, ag, ad0, Q, nL⟩ := X
  cases hnL
  refine ⟨ok_FR (ok_iload_n hM 1 dX6_target_0 rfl),
    ok_callSX hM hX [] (ctX6_requireTenant l hl) rfl gX6_target_X6_requireTenant rfl rfl rfl (by decide +kernel) (by decide) dX6_target_1,
    ok_FR (ok_aload_n hM 0 dX6_target_4 rfl),
    ok_get (C := RX6) (T := TX6) (Nf := 6) hM (fun _ h => List.mem_cons_of_mem _ (List.mem_append_left _ (List.mem_append_left _ (List.mem_append_left _ (List.mem_append_left _ (List.mem_append_right _ h)))))) rfl 1 (by decide) (List.mem_of_getElem? (i := 1) rfl) rfl dX6_target_5,
    ok_aload_n hM 0 dX6_target_8 rfl,
    ok_get (C := RX6) (T := TX6) (Nf := 6) hM (fun _ h => List.mem_cons_of_mem _ (List.mem_append_left _ (List.mem_append_left _ (List.mem_append_left _ (List.mem_append_left _ (List.mem_append_right _ h)))))) rfl 0 (by decide) (List.mem_of_getElem? (i := 2) rfl) rfl dX6_target_9,
    ok_R (ok_callV hM [11,12,1,2,3,4,5,6,7,8,9,10] (ctX5_compute l) rfl rfl gX6_target_X5_compute rfl rfl rfl (by decide +kernel) (by decide) dX6_target_12),
    ok_FR (ok_aload_n hM 0 dX6_target_15 rfl),
    ok_get (C := RX6) (T := TX6) (Nf := 6) hM (fun _ h => List.mem_cons_of_mem _ (List.mem_append_left _ (List.mem_append_left _ (List.mem_append_left _ (List.mem_append_left _ (List.mem_append_right _ h)))))) rfl 1 (by decide) (List.mem_of_getElem? (i := 1) rfl) rfl dX6_target_16,
    ok_get (C := RX5) (T := TX5) (Nf := 1) hM (fun _ h => List.mem_cons_of_mem _ (List.mem_append_left _ (List.mem_append_left _ (List.mem_append_left _ (List.mem_append_right _ h))))) rfl 0 (by decide) (List.mem_of_getElem? (i := 3) rfl) rfl dX6_target_19,
    ok_iload_n hM 1 dX6_target_22 rfl,
    ok_iald hM dX6_target_23,
    ok_ret hM hE dX6_target_24,
    trivial⟩
set_option maxRecDepth 100000 in
theorem ctX6_target (l : Launch) (hl : l.stackTraces = false) : CtX l yX6_target wsX6_target rmX6_target 1 6 sX6_target := by
  refine ctX_of (own := RX6) (cc := cX6_target) (maxL := 2) (ret := (some .int)) (by decide) rfl rfl (by rintro _ _ _ _ ⟨x, v, wy, n, ch, H, o, s, r, L, rfl, ho, hs, hL, rfl, hK, hX0⟩; exact Nat.le_of_ble_eq_true rfl) ?_
  intro X av es K KX hM hE hX hnL hsp
  obtain ⟨x, v, wy, n, ch, H, o, s, r, L, rfl, ho, hs, hL, rfl, hK, hX0⟩ := hsp
  have hf := kX6_target hM hE hX hl hnL
  refine wr_ok hf cut_nil 5 0 _ _ _ _ _ ?_
  refine ⟨_, rfl, rfl, fun t ht et => ?_, fun q => ?_⟩
  · subst et
    refine ⟨wy, v, L, rfl, hL, rfl, ?_⟩
    exact ⟨t, rfl, ht, hK t ht rfl⟩
  · exact hX0  q
def sX6_count : gSX := fun av es K KX => ∃ x y v wy n ch H o s r, av = [.ref 0, .int x, .int y] ∧ o < 6 ∧ s ≤ 6 ∧ es = wX v wy n ch H o s r ∧ (∀ t w, t < 4 → w ≤ 3 → x = nI t → y = nI w → K (some (.int (vCo v (t * 4 + w)))) es) ∧ (¬ inI x 4 → KX "java/lang/IndexOutOfBoundsException" (wX v wy n ch H o s r)) ∧ (inI x 4 → ¬ inA y 0 3 → KX "java/lang/IllegalArgumentException" (wX v wy n ch H o s r))
def rmX6_count : Room := { frames := 8, cells := 2, slots := 12, locals := 131 }
def pX6_count (K : gK) (KX : gKX) : List (Nat × gO) := [(0, oFR 17 (oILoad 1)), (1, oCallSX 2 12 2 12 1 6 1 [] sX6_requireTenant KX), (4, oFR 17 (oILoad 2)), (5, oConst (nI 0)), (6, oConst (nI 3)), (7, oCallSX 2 12 2 12 1 6 3 [] sX6_requireArgument KX), (10, oFR 17 (oALoad 0)), (11, oGet 6 0), (14, oGet 4 3), (17, oILoad 1), (18, oConst (nI 4)), (19, oMul), (20, oILoad 2), (21, oAdd), (22, oIALd 0), (23, oRet K 2 12)]
set_option maxRecDepth 100000 in
theorem kX6_count {X : gX} {l : Launch} (hM : gM X l cX6_count RX6 wsX6_count rmX6_count) {K : gK} (hE : gR X K 2 12 (some .int)) {KX : gKX} (hX : gRX X KX 2 12) (hl : l.stackTraces = false) (hnL : X.2.2.2.2.2.2.2.2.2.2.2.2.2.2.2.2 = 3) : okL X (pX6_count K KX) := by
  obtain ⟨p, l1, e, R, s, m, args, below, meth, c, D, cA, A, ag, ad0, Q, nL⟩ := X
  cases hnL
  refine ⟨ok_FR (ok_iload_n hM 1 dX6_count_0 rfl),
    ok_callSX hM hX [] (ctX6_requireTenant l hl) rfl gX6_count_X6_requireTenant rfl rfl rfl (by decide +kernel) (by decide) dX6_count_1,
    ok_FR (ok_iload_n hM 2 dX6_count_4 rfl),
    ok_iconst hM dX6_count_5 rfl,
    ok_iconst hM dX6_count_6 rfl,
    ok_callSX hM hX [] (ctX6_requireArgument l hl) rfl gX6_count_X6_requireArgument rfl rfl rfl (by decide +kernel) (by decide) dX6_count_7,
    ok_FR (ok_aload_n hM 0 dX6_count_10 rfl),
    ok_get (C := RX6) (T := TX6) (Nf := 6) hM (fun _ h => List.mem_cons_of_mem _ (List.mem_append_left _ (List.mem_append_left _ (List.mem_append_left _ (List.mem_append_right _ h))))) rfl 0 (by decide) (List.mem_of_getElem? (i := 1) rfl) rfl dX6_count_11,
    ok_get (C := RX4) (T := TX4) (Nf := 6) hM (fun _ h => List.mem_cons_of_mem _ (List.mem_append_left _ (List.mem_append_left _ (List.mem_append_right _ h)))) rfl 3 (by decide) (List.mem_of_getElem? (i := 2) rfl) rfl dX6_count_14,
    ok_iload_n hM 1 dX6_count_17 rfl,
    ok_iconst hM dX6_count_18 rfl,
    ok_imul hM dX6_count_19,
    ok_iload_n hM 2 dX6_count_20 rfl,
    ok_iadd hM dX6_count_21,
    ok_iald hM dX6_count_22,
    ok_ret hM hE dX6_count_23,
    trivial⟩
set_option maxRecDepth 100000 in
theorem ctX6_count (l : Launch) (hl : l.stackTraces = false) : CtX l yX6_count wsX6_count rmX6_count 2 12 sX6_count := by
  refine ctX_of (own := RX6) (cc := cX6_count) (maxL := 3) (ret := (some .int)) (by decide) rfl rfl (by rintro _ _ _ _ ⟨x, y, v, wy, n, ch, H, o, s, r, rfl, ho, hs, rfl, hK, hX0, hX1⟩; exact Nat.le_of_ble_eq_true rfl) ?_
  intro X av es K KX hM hE hX hnL hsp
  obtain ⟨x, y, v, wy, n, ch, H, o, s, r, rfl, ho, hs, rfl, hK, hX0, hX1⟩ := hsp
  have hf := kX6_count hM hE hX hl hnL
  refine wr_ok hf cut_nil 5 0 _ _ _ _ _ ?_
  refine ⟨_, rfl, rfl, fun t ht et => ?_, fun q => ?_⟩
  · subst et
    refine ⟨_, _, _, 0, 3, rfl, rfl, rfl, by decide, by decide, rfl, fun w hw0 hw ew => ?_, fun q => ?_⟩
    · subst ew
      exact ⟨t * 4 + w, by rw [pk_mul, nI_add], by omega, hK t w ht hw rfl rfl⟩
    · exact hX1 ⟨t, ht, rfl⟩ q
  · exact hX0  q
end MQ5

/-! Constructors. -/
section MI1
def sX5_init : gS := fun av es K => av = [.ref 0] ∧ es = [.inr (5, [.null])] ∧ K none (tgA 0 (fun _ => 0))
def rmX5_init : Room := { frames := 1, cells := 1, slots := 4, locals := 60 }
def pX5_init (K : gK) : List (Nat × gO) := [(0, oF (oALoad 0)), (1, oObj 60), (4, oALoad 0), (5, oConst (nI 4)), (6, oNewA 1 4 1 0), (8, oF (oPutR 5 0)), (11, oF (oRetV K 1 4))]
set_option maxRecDepth 100000 in
theorem kX5_init {X : gX} {l : Launch} (hM : gM X l cX5_init RX5 wsX5_init rmX5_init) {K : gK} (hE : gR X K 1 4 none) (hin : gInit X) (hA0 : gN0 X 1) (hnL : X.2.2.2.2.2.2.2.2.2.2.2.2.2.2.2.2 = 1) : okL X (pX5_init K) := by
  obtain ⟨p, l1, e, R, s, m, args, below, meth, c, D, cA, A, ag, ad0, Q, nL⟩ := X
  cases hnL
  refine ⟨ok_F (ok_aload_n hM 0 dX5_init_0 rfl),
    ok_obj hM (List.mem_of_getElem? (i := 1) rfl) (List.mem_of_getElem? (i := 2) rfl) (List.mem_of_getElem? (i := 3) rfl) (by decide) dX5_init_1,
    ok_aload_n hM 0 dX5_init_4 rfl,
    ok_iconst hM dX5_init_5 rfl,
    ok_newa0 hM hA0 (List.mem_of_getElem? (i := 4) rfl) dX5_init_6,
    ok_F (ok_putRAF (ct := .int) (C := RX5) (T := TX5) (Nf := 1) hM (fun _ h => List.mem_cons_of_mem _ (List.mem_append_right _ h)) tyX5 tyX5_ok nmX5 rfl 0 (by decide) (List.mem_of_getElem? (i := 5) rfl) rfl rfl hin rfl (by decide +kernel) dX5_init_8),
    ok_F (ok_retV hM hE dX5_init_11),
    trivial⟩
set_option maxRecDepth 100000 in
theorem ctX5_init (l : Launch) : Ct l yX5_init wsX5_init rmX5_init 1 4 true sX5_init := by
  refine ct_of (own := RX5) (cc := cX5_init) (maxL := 1) (ret := none) (by decide) rfl rfl (by rintro _ _ _ ⟨rfl, rfl, hK⟩; exact Nat.le_of_ble_eq_true rfl) ?_
  intro X av es K hM hE hag hin hnL hsp
  obtain ⟨rfl, rfl, hK⟩ := hsp
  have hf := kX5_init hM hE (hin rfl) (gN0_of hag) hnL
  refine wr_ok hf cut_nil 5 0 _ _ _ _ _ ?_
  refine ⟨1, 4, rfl, rfl, ?_⟩
  exact hK
def sX0_init : gS := fun av es K => av = [.ref 0] ∧ es = [.inr (0, [.null, .int 0])] ∧ K none (tx0 (fun _ => 0) (nI 0))
def rmX0_init : Room := { frames := 1, cells := 1, slots := 80, locals := 60 }
def pX0_init (K : gK) : List (Nat × gO) := [(0, oF (oALoad 0)), (1, oObj 60), (4, oALoad 0), (5, oConst (nI 80)), (7, oNewA 1 80 1 1), (9, oF (oPutR 0 0)), (12, oF (oALoad 0)), (13, oConst (nI 0)), (14, oPutI 0 1), (17, oF (oRetV K 1 80))]
set_option maxRecDepth 100000 in
theorem kX0_init {X : gX} {l : Launch} (hM : gM X l cX0_init RX0 wsX0_init rmX0_init) {K : gK} (hE : gR X K 1 80 none) (hin : gInit X) (hA0 : gN0 X 1) (hnL : X.2.2.2.2.2.2.2.2.2.2.2.2.2.2.2.2 = 1) : okL X (pX0_init K) := by
  obtain ⟨p, l1, e, R, s, m, args, below, meth, c, D, cA, A, ag, ad0, Q, nL⟩ := X
  cases hnL
  refine ⟨ok_F (ok_aload_n hM 0 dX0_init_0 rfl),
    ok_obj hM (List.mem_of_getElem? (i := 1) rfl) (List.mem_of_getElem? (i := 2) rfl) (List.mem_of_getElem? (i := 3) rfl) (by decide) dX0_init_1,
    ok_aload_n hM 0 dX0_init_4 rfl,
    ok_bipush hM dX0_init_5 rfl,
    ok_newa1 hM hA0 (List.mem_of_getElem? (i := 4) rfl) dX0_init_7,
    ok_F (ok_putRAF (ct := .char) (C := RX0) (T := TX0) (Nf := 2) hM (fun _ h => List.mem_cons_of_mem _ (List.mem_append_right _ h)) tyX0 tyX0_ok nmX0 rfl 0 (by decide) (List.mem_of_getElem? (i := 5) rfl) rfl rfl hin rfl (by decide +kernel) dX0_init_9),
    ok_F (ok_aload_n hM 0 dX0_init_12 rfl),
    ok_iconst hM dX0_init_13 rfl,
    ok_putI (C := RX0) (T := TX0) (Nf := 2) hM (fun _ h => List.mem_cons_of_mem _ (List.mem_append_right _ h)) tyX0 tyX0_ok nmX0 rfl 1 (by decide) (List.mem_of_getElem? (i := 6) rfl) rfl rfl (by decide +kernel) dX0_init_14,
    ok_F (ok_retV hM hE dX0_init_17),
    trivial⟩
set_option maxRecDepth 100000 in
theorem ctX0_init (l : Launch) : Ct l yX0_init wsX0_init rmX0_init 1 80 true sX0_init := by
  refine ct_of (own := RX0) (cc := cX0_init) (maxL := 1) (ret := none) (by decide) rfl rfl (by rintro _ _ _ ⟨rfl, rfl, hK⟩; exact Nat.le_of_ble_eq_true rfl) ?_
  intro X av es K hM hE hag hin hnL hsp
  obtain ⟨rfl, rfl, hK⟩ := hsp
  have hf := kX0_init hM hE (hin rfl) (gN0_of hag) hnL
  refine wr_ok hf cut_nil 5 0 _ _ _ _ _ ?_
  refine ⟨1, 80, rfl, rfl, ?_⟩
  exact hK
def sX2_init : gS := fun av es K => av = [.ref 0] ∧ es = [.inr (2, [.null, .null])] ∧ K none (moE (fun _ => -1) (fun _ => 0))
def rmX2_init : Room := { frames := 1, cells := 2, slots := 96, locals := 60 }
def pX2_init (K : gK) : List (Nat × gO) := [(0, oF (oALoad 0)), (1, oObj 60), (4, oALoad 0), (5, oConst (nI 64)), (7, oNewA 2 96 1 0), (9, oF (oPutR 2 0)), (12, oF (oALoad 0)), (13, oConst (nI 32)), (15, oNewA 2 96 1 0), (17, oF (oPutR 2 1)), (20, oConst (nI 0)), (21, oF (oIStore 2 1)), (22, oF (oILoad 1)), (23, oALoad 0), (24, oGet 2 0), (27, oALen), (28, oICmp_ge 44), (31, oALoad 0), (32, oGet 2 0), (35, oILoad 1), (36, oConst (-1)), (37, oIASt), (38, oF (oIInc 2 1 (nI 1))), (41, oGoto 22), (44, oF (oRetV K 2 96))]
set_option maxRecDepth 100000 in
theorem kX2_init {X : gX} {l : Launch} (hM : gM X l cX2_init RX2 wsX2_init rmX2_init) {K : gK} (hE : gR X K 2 96 none) (hin : gInit X) (hA0 : gN0 X 1) (hnL : X.2.2.2.2.2.2.2.2.2.2.2.2.2.2.2.2 = 2) : okL X (pX2_init K) := by
  obtain ⟨p, l1, e, R, s, m, args, below, meth, c, D, cA, A, ag, ad0, Q, nL⟩ := X
  cases hnL
  refine ⟨ok_F (ok_aload_n hM 0 dX2_init_0 rfl),
    ok_obj hM (List.mem_of_getElem? (i := 1) rfl) (List.mem_of_getElem? (i := 2) rfl) (List.mem_of_getElem? (i := 3) rfl) (by decide) dX2_init_1,
    ok_aload_n hM 0 dX2_init_4 rfl,
    ok_bipush hM dX2_init_5 rfl,
    ok_newa0 hM hA0 (List.mem_of_getElem? (i := 4) rfl) dX2_init_7,
    ok_F (ok_putRAF (ct := .int) (C := RX2) (T := TX2) (Nf := 2) hM (fun _ h => List.mem_cons_of_mem _ (List.mem_append_right _ h)) tyX2 tyX2_ok nmX2 rfl 0 (by decide) (List.mem_of_getElem? (i := 5) rfl) rfl rfl hin rfl (by decide +kernel) dX2_init_9),
    ok_F (ok_aload_n hM 0 dX2_init_12 rfl),
    ok_bipush hM dX2_init_13 rfl,
    ok_newa0 hM hA0 (List.mem_of_getElem? (i := 4) rfl) dX2_init_15,
    ok_F (ok_putRAF (ct := .int) (C := RX2) (T := TX2) (Nf := 2) hM (fun _ h => List.mem_cons_of_mem _ (List.mem_append_right _ h)) tyX2 tyX2_ok nmX2 rfl 1 (by decide) (List.mem_of_getElem? (i := 6) rfl) rfl rfl hin rfl (by decide +kernel) dX2_init_17),
    ok_iconst hM dX2_init_20 rfl,
    ok_F (ok_istore_n hM 1 dX2_init_21 rfl),
    ok_F (ok_iload_n hM 1 dX2_init_22 rfl),
    ok_aload_n hM 0 dX2_init_23 rfl,
    ok_get (C := RX2) (T := TX2) (Nf := 2) hM (fun _ h => List.mem_cons_of_mem _ (List.mem_append_right _ h)) rfl 0 (by decide) (List.mem_of_getElem? (i := 5) rfl) rfl dX2_init_24,
    ok_alen hM dX2_init_27,
    ok_icmp_ge hM 44 dX2_init_28 (by decide),
    ok_aload_n hM 0 dX2_init_31 rfl,
    ok_get (C := RX2) (T := TX2) (Nf := 2) hM (fun _ h => List.mem_cons_of_mem _ (List.mem_append_right _ h)) rfl 0 (by decide) (List.mem_of_getElem? (i := 5) rfl) rfl dX2_init_32,
    ok_iload_n hM 1 dX2_init_35 rfl,
    ok_iconst hM dX2_init_36 rfl,
    ok_iast hM dX2_init_37,
    ok_F (ok_iinc hM 1 dX2_init_38 rfl),
    ok_goto hM 22 dX2_init_41 (by decide),
    ok_F (ok_retV hM hE dX2_init_44),
    trivial⟩
set_option maxRecDepth 100000 in
theorem ctX2_init (l : Launch) : Ct l yX2_init wsX2_init rmX2_init 2 96 true sX2_init := by
  refine ct_of (own := RX2) (cc := cX2_init) (maxL := 2) (ret := none) (by decide) rfl rfl (by rintro _ _ _ ⟨rfl, rfl, hK⟩; exact Nat.le_of_ble_eq_true rfl) ?_
  intro X av es K hM hE hag hin hnL hsp
  obtain ⟨rfl, rfl, hK⟩ := hsp
  have hf := kX2_init hM (gR_eqv hE) (hin rfl) (gN0_of hag) hnL
  refine g_with (X := X) 22 [0, 1] (fun μ vs es k n => ∃ (i : Nat) (f : Nat → Int32), μ = 64 - i ∧ i ≤ 64 ∧ (∀ j, j < i → f j = -1) ∧ vs = [.ref 0, .int (nI i)] ∧ es = moE f (fun _ => 0) ∧ k = 2 ∧ n = 96) cut_nil (fun μ hc vs es k n hI => ?_) (fun hc => ?_)
  · obtain ⟨i, f, rfl, hi, hfi, rfl, rfl, rfl, rfl⟩ := hI
    refine g_go hf hc 5 ?_
    refine ⟨fun h => ?_, fun h => ?_⟩
    · have h4 : i = 64 := by
        rw [nI_leI (by decide) (by omega)] at h
        omega
      subst h4
      exact ⟨moE (fun _ => -1) (fun _ => 0), ⟨rfl, ⟨rfl, rfl, fun j hj => hfi j hj⟩, eqE_rfl _, trivial⟩, hK⟩
    · have h4 : i < 64 := by
        rw [nI_leI (by decide) (by omega)] at h
        omega
      refine ⟨i, rfl, h4, ?_⟩
      refine ⟨64 - (i + 1), by omega, i + 1, upd f i (-1), rfl, by omega, fun j hj => ?_, by rw [nI_add], rfl, rfl, rfl⟩
      unfold upd
      by_cases h6 : j = i
      · rw [if_pos h6]
      · rw [if_neg h6]
        exact hfi j (by omega)
  · refine wr_ok hf hc 5 0 _ _ _ _ _ ?_
    refine ⟨1, 64, rfl, rfl, ?_⟩
    refine ⟨2, 32, rfl, rfl, ?_⟩
    exact ⟨64, 0, fun _ => 0, rfl, by omega, fun j hj => by omega, rfl, rfl, rfl, rfl⟩
end MI1

/-! PartitionedCacheModel: a line put in. -/
section MM5
abbrev coR (R : Nat → Int32) : Nat → Int32 := fun j => R (190 + j)
def evR (R : Nat → Int32) (p : Nat) : Nat → Int32 := fun j => if 190 ≤ j ∧ j < 206 then evC (hdR R) p 4 (coR R) (j - 190) else R j
theorem evR_no {R : Nat → Int32} {p : Nat} (h : hdR R p = -1) (j : Nat) : evR R p j = R j := by
  unfold evR evC
  have e1 : ∀ t, hol (hdR R) t p = false := fun t => by simp [hol, h]
  split
  · rename_i h1
    rw [if_neg (fun q => by rw [e1] at q; exact absurd q.2.2 (by decide))]
    show R (190 + (j - 190)) = R j
    rw [show 190 + (j - 190) = j by omega]
  · rfl
theorem evR_c {R : Nat → Int32} {p c : Nat} (hc : c < 1024) (h : hdR R p = nI c) (j : Nat) : evR R p j = upd R (190 + 4 * (c / 256) + 3) (R (190 + 4 * (c / 256) + 3) + nI 1) j := by
  have e0 : ¬ hdR R p = -1 := fun q => by
    have : ¬ nI c < 0 := nI_pos (by omega)
    rw [← h, q] at this
    exact absurd (by decide) this
  have e1 : ∀ q, q < 4 → (hol (hdR R) (nI q) p = true ↔ c / 256 = q) := fun q hq => by
    have e2 : hdR R p / nI 256 = nI (c / 256) := by rw [h, pk_div (by omega) (by decide) (by decide)]
    have e3 : nI (c / 256) = nI q ↔ c / 256 = q := nI_eq (by omega) (by omega)
    have e4 : hol (hdR R) (nI q) p = true ↔ (¬ hdR R p = -1 ∧ hdR R p / nI 256 = nI q) := by
      unfold hol
      rw [Bool.and_eq_true, decide_eq_true_iff, decide_eq_true_iff]
    rw [e4, e2, e3]
    exact ⟨fun z => z.2, fun z => ⟨e0, z⟩⟩
  unfold evR evC upd
  by_cases hj : j = 190 + 4 * (c / 256) + 3
  · rw [if_pos hj, if_pos ⟨by omega, by omega⟩, if_pos ⟨by omega, by omega, (e1 _ (by omega)).mpr (by omega)⟩]
    show R (190 + (j - 190)) + nI 1 = _
    rw [show 190 + (j - 190) = j by omega, hj]
  · rw [if_neg hj]
    split
    · rename_i h1
      rw [if_neg (fun q => hj (by have := (e1 _ q.2.1).mp q.2.2; omega))]
      show R (190 + (j - 190)) = R j
      rw [show 190 + (j - 190) = j by omega]
    · rfl
def puR (R : Nat → Int32) (t a p : Nat) : Nat → Int32 := upd (upd (evR R p) (8 + p) (nI t * nI 256 + nI a)) (40 + p) (R 189)
def sX7_put : gS := fun av es K => ∃ x y t a p fs R r, av = [.ref 0, .int x, .int y] ∧ x = nI t ∧ y = nI a ∧ a < 256 ∧ ptf R (hdR R) (stR R) (nI t) (a % 4 * 8) 8 0 none = some p ∧ p < 32 ∧ lnOK R ∧ es = rw2 fs R r ∧ K none (rw2 fs (puR R t a p) r)
def rmX7_put : Room := { frames := 1, cells := 0, slots := 0, locals := 26 }
def pX7_put (K : gK) : List (Nat × gO) := [(0, oFR 2 (oALoad 0)), (1, oILoad 1), (2, oILoad 2), (3, oCallV0 0 0 7 2 sX7_placeFor), (6, oFR 2 (oIStore 4 3)), (7, oFR 2 (oALoad 0)), (8, oGet 7 0), (11, oConst (nI 8)), (13, oILoad 3), (14, oAdd), (15, oIALd 0), (16, oConst (-1)), (17, oICmp_eq 50), (20, oALoad 0), (21, oGet 7 0), (24, oConst (nI 190)), (27, oConst (nI 4)), (28, oALoad 0), (29, oGet 7 0), (32, oConst (nI 8)), (34, oILoad 3), (35, oAdd), (36, oIALd 0), (37, oConst (nI 256)), (40, oDiv), (41, oMul), (42, oAdd), (43, oConst (nI 3)), (44, oAdd), (45, oDup2), (46, oIALd 0), (47, oConst (nI 1)), (48, oAdd), (49, oIASt), (50, oFR 2 (oALoad 0)), (51, oGet 7 0), (54, oConst (nI 8)), (56, oILoad 3), (57, oAdd), (58, oConst (nI 256)), (61, oILoad 1), (62, oMul), (63, oILoad 2), (64, oAdd), (65, oIASt), (66, oFR 2 (oALoad 0)), (67, oGet 7 0), (70, oConst (nI 40)), (72, oILoad 3), (73, oAdd), (74, oALoad 0), (75, oGet 7 0), (78, oConst (nI 189)), (81, oIALd 0), (82, oIASt), (83, oFR 2 (oRetV K 0 0))]
set_option maxRecDepth 100000 in
theorem kX7_put {X : gX} {l : Launch} (hM : gM X l cX7_put RX7 wsX7_put rmX7_put) {K : gK} (hE : gR X K 0 0 none) (hnL : X.2.2.2.2.2.2.2.2.2.2.2.2.2.2.2.2 = 4) : okL X (pX7_put K) := by
  obtain ⟨p, l1, e, R, s, m, args, below, meth, c, D, cA, A, ag, ad0, Q, nL⟩ := X
  cases hnL
  refine ⟨ok_FR (ok_aload_n hM 0 dX7_put_0 rfl),
    ok_iload_n hM 1 dX7_put_1 rfl,
    ok_iload_n hM 2 dX7_put_2 rfl,
    ok_callV0 hM (ctX7_placeFor l) rfl gX7_put_X7_placeFor rfl rfl rfl (by decide +kernel) (by decide) dX7_put_3,
    ok_FR (ok_istore_n hM 3 dX7_put_6 rfl),
    ok_FR (ok_aload_n hM 0 dX7_put_7 rfl),
    ok_get (C := RX7) (T := TX7) (Nf := 11) hM (fun _ h => List.mem_cons_of_mem _ (List.mem_append_right _ h)) rfl 0 (by decide) (List.mem_of_getElem? (i := 1) rfl) rfl dX7_put_8,
    ok_bipush hM dX7_put_11 rfl,
    ok_iload_n hM 3 dX7_put_13 rfl,
    ok_iadd hM dX7_put_14,
    ok_iald hM dX7_put_15,
    ok_iconst hM dX7_put_16 rfl,
    ok_icmp_eq hM 50 dX7_put_17 (by decide),
    ok_aload_n hM 0 dX7_put_20 rfl,
    ok_get (C := RX7) (T := TX7) (Nf := 11) hM (fun _ h => List.mem_cons_of_mem _ (List.mem_append_right _ h)) rfl 0 (by decide) (List.mem_of_getElem? (i := 1) rfl) rfl dX7_put_21,
    ok_sipush hM dX7_put_24 rfl,
    ok_iconst hM dX7_put_27 rfl,
    ok_aload_n hM 0 dX7_put_28 rfl,
    ok_get (C := RX7) (T := TX7) (Nf := 11) hM (fun _ h => List.mem_cons_of_mem _ (List.mem_append_right _ h)) rfl 0 (by decide) (List.mem_of_getElem? (i := 1) rfl) rfl dX7_put_29,
    ok_bipush hM dX7_put_32 rfl,
    ok_iload_n hM 3 dX7_put_34 rfl,
    ok_iadd hM dX7_put_35,
    ok_iald hM dX7_put_36,
    ok_sipush hM dX7_put_37 rfl,
    ok_idiv hM dX7_put_40,
    ok_imul hM dX7_put_41,
    ok_iadd hM dX7_put_42,
    ok_iconst hM dX7_put_43 rfl,
    ok_iadd hM dX7_put_44,
    ok_dup2 hM dX7_put_45,
    ok_iald hM dX7_put_46,
    ok_iconst hM dX7_put_47 rfl,
    ok_iadd hM dX7_put_48,
    ok_iast hM dX7_put_49,
    ok_FR (ok_aload_n hM 0 dX7_put_50 rfl),
    ok_get (C := RX7) (T := TX7) (Nf := 11) hM (fun _ h => List.mem_cons_of_mem _ (List.mem_append_right _ h)) rfl 0 (by decide) (List.mem_of_getElem? (i := 1) rfl) rfl dX7_put_51,
    ok_bipush hM dX7_put_54 rfl,
    ok_iload_n hM 3 dX7_put_56 rfl,
    ok_iadd hM dX7_put_57,
    ok_sipush hM dX7_put_58 rfl,
    ok_iload_n hM 1 dX7_put_61 rfl,
    ok_imul hM dX7_put_62,
    ok_iload_n hM 2 dX7_put_63 rfl,
    ok_iadd hM dX7_put_64,
    ok_iast hM dX7_put_65,
    ok_FR (ok_aload_n hM 0 dX7_put_66 rfl),
    ok_get (C := RX7) (T := TX7) (Nf := 11) hM (fun _ h => List.mem_cons_of_mem _ (List.mem_append_right _ h)) rfl 0 (by decide) (List.mem_of_getElem? (i := 1) rfl) rfl dX7_put_67,
    ok_bipush hM dX7_put_70 rfl,
    ok_iload_n hM 3 dX7_put_72 rfl,
    ok_iadd hM dX7_put_73,
    ok_aload_n hM 0 dX7_put_74 rfl,
    ok_get (C := RX7) (T := TX7) (Nf := 11) hM (fun _ h => List.mem_cons_of_mem _ (List.mem_append_right _ h)) rfl 0 (by decide) (List.mem_of_getElem? (i := 1) rfl) rfl dX7_put_75,
    ok_sipush hM dX7_put_78 rfl,
    ok_iald hM dX7_put_81,
    ok_iast hM dX7_put_82,
    ok_FR (ok_retV hM hE dX7_put_83),
    trivial⟩
set_option maxRecDepth 100000 in
theorem ctX7_put (l : Launch) : Ct l yX7_put wsX7_put rmX7_put 0 0 false sX7_put := by
  refine ct_of (own := RX7) (cc := cX7_put) (maxL := 4) (ret := none) (by decide) rfl rfl (by rintro _ _ _ ⟨x, y, t, a, p, fs, R, r, rfl, rfl, rfl, ha, hp, hp32, hln, rfl, hK⟩; exact Nat.le_of_ble_eq_true rfl) ?_
  intro X av es K hM hE hag hin hnL hsp
  obtain ⟨x, y, t, a, p, fs, R, r, rfl, rfl, rfl, ha, hp, hp32, hln, rfl, hK⟩ := hsp
  have hf := kX7_put hM (gR_eqv hE) hnL
  have ew : nI 256 * nI t + nI a = nI t * nI 256 + nI a := by rw [pk_mul, pk_mul, Nat.mul_comm]
  refine wr_ok hf cut_nil 5 0 _ _ _ _ _ ?_
  refine ⟨_, _, t, a, fs, R, r, rfl, rfl, rfl, ha, rfl, ?_⟩
  rw [hp]
  refine ⟨8 + p, nI_add _ _, by omega, ?_⟩
  refine ⟨fun h1 => ?_, fun h1 => ?_⟩
  · have h2 : hdR R p = -1 := h1
    refine ⟨8 + p, nI_add _ _, by omega, ?_⟩
    refine ⟨189, rfl, by decide, ?_⟩
    refine ⟨40 + p, nI_add _ _, by omega, ?_⟩
    refine ⟨rw2 fs (puR R t a p) r, ⟨rfl, ⟨rfl, rfl, fun j hj => ?_⟩, eqL_rfl _⟩, hK⟩
    have e7 : upd R (8 + p) (nI 256 * nI t + nI a) 189 = R 189 := by
      unfold upd
      rw [if_neg (by omega)]
    show upd (upd R (8 + p) (nI 256 * nI t + nI a)) (40 + p) (upd R (8 + p) (nI 256 * nI t + nI a) 189) j = _
    rw [e7, ew]
    unfold puR upd
    rw [evR_no h2]
  · have h2 : ¬ hdR R p = -1 := h1
    obtain ⟨c, hc, h3⟩ := (hln p hp32).resolve_left h2
    have h4 : R (8 + p) = nI c := h3
    have e5 : nI 190 + nI 4 * (R (8 + p) / nI 256) + nI 3 = nI (190 + 4 * (c / 256) + 3) := by rw [h4, pk_div (by omega) (by decide) (by decide), pk_mul, nI_add, nI_add]
    refine ⟨8 + p, nI_add _ _, by omega, ?_⟩
    refine ⟨by decide, ?_⟩
    refine ⟨190 + 4 * (c / 256) + 3, e5, by omega, ?_⟩
    refine ⟨190 + 4 * (c / 256) + 3, e5, by omega, ?_⟩
    refine ⟨8 + p, nI_add _ _, by omega, ?_⟩
    refine ⟨189, rfl, by decide, ?_⟩
    refine ⟨40 + p, nI_add _ _, by omega, ?_⟩
    refine ⟨rw2 fs (puR R t a p) r, ⟨rfl, ⟨rfl, rfl, fun j hj => ?_⟩, eqL_rfl _⟩, hK⟩
    have e7 : upd (upd R (190 + 4 * (c / 256) + 3) (R (190 + 4 * (c / 256) + 3) + nI 1)) (8 + p) (nI 256 * nI t + nI a) 189 = R 189 := by
      unfold upd
      rw [if_neg (by omega), if_neg (by omega)]
    show upd (upd (upd R (190 + 4 * (c / 256) + 3) (R (190 + 4 * (c / 256) + 3) + nI 1)) (8 + p) (nI 256 * nI t + nI a)) (40 + p) (upd (upd R (190 + 4 * (c / 256) + 3) (R (190 + 4 * (c / 256) + 3) + nI 1)) (8 + p) (nI 256 * nI t + nI a) 189) j = _
    rw [e7, ew]
    have e6 := evR_c hc h3 j
    unfold puR upd
    unfold upd at e6
    rw [e6]
end MM5

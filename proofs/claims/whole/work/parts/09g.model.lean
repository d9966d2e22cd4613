/-! PartitionedCacheModel: reading the text. -/
section MM7
def seB (ch : Nat → Nat) (n p lo hi : Nat) : Bool := decide (p < n ∧ lo ≤ ch p ∧ ch p ≤ hi)
def sX7_sees : gS := fun av es K => ∃ x y lo hi n p ch R P S hs tg st nu th r, av = [.ref 0, .int x, .int y] ∧ x = nI lo ∧ y = nI hi ∧ lo < 1000 ∧ hi < 1000 ∧ n ≤ 80 ∧ p < 1000 ∧ (∀ j, j < n → ch j < 1000) ∧ es = mdW R P S hs tg (nF ch) st (nI n) (nI p) nu th r ∧ K (some (.int (bI (seB ch n p lo hi)))) es
def rmX7_sees : Room := { frames := 1, cells := 0, slots := 0, locals := 22 }
def pX7_sees (K : gK) : List (Nat × gO) := [(0, oFR 7 (oALoad 0)), (1, oGet 7 8), (4, oALoad 0), (5, oGet 7 7), (8, oICmp_ge 32), (11, oALoad 0), (12, oGet 7 6), (15, oALoad 0), (16, oGet 7 8), (19, oIALd 0), (20, oILoad 1), (21, oILoad 2), (22, oSR 7 0 0 3 [] sX7_in), (25, oFR 7 (oIf_eq 32)), (28, oConst (nI 1)), (29, oGoto 33), (32, oConst (nI 0)), (33, oRetZ K 0 0)]
set_option maxRecDepth 100000 in
theorem kX7_sees {X : gX} {l : Launch} (hM : gM X l cX7_sees RX7 wsX7_sees rmX7_sees) {K : gK} (hE : gR X K 0 0 (some .boolean)) (hnL : X.2.2.2.2.2.2.2.2.2.2.2.2.2.2.2.2 = 3) : okL X (pX7_sees K) := by
  obtain ⟨p, l1, e, R, s, m, args, below, meth, c, D, cA, A, ag, ad0, Q, nL⟩ := X
  cases hnL
  refine ⟨ok_FR (ok_aload_n hM 0 dX7_sees_0 rfl),
    ok_get (C := RX7) (T := TX7) (Nf := 11) hM (fun _ h => List.mem_cons_of_mem _ (List.mem_append_right _ h)) rfl 8 (by decide) (List.mem_of_getElem? (i := 1) rfl) rfl dX7_sees_1,
    ok_aload_n hM 0 dX7_sees_4 rfl,
    ok_get (C := RX7) (T := TX7) (Nf := 11) hM (fun _ h => List.mem_cons_of_mem _ (List.mem_append_right _ h)) rfl 7 (by decide) (List.mem_of_getElem? (i := 2) rfl) rfl dX7_sees_5,
    ok_icmp_ge hM 32 dX7_sees_8 (by decide),
    ok_aload_n hM 0 dX7_sees_11 rfl,
    ok_get (C := RX7) (T := TX7) (Nf := 11) hM (fun _ h => List.mem_cons_of_mem _ (List.mem_append_right _ h)) rfl 6 (by decide) (List.mem_of_getElem? (i := 3) rfl) rfl dX7_sees_12,
    ok_aload_n hM 0 dX7_sees_15 rfl,
    ok_get (C := RX7) (T := TX7) (Nf := 11) hM (fun _ h => List.mem_cons_of_mem _ (List.mem_append_right _ h)) rfl 8 (by decide) (List.mem_of_getElem? (i := 1) rfl) rfl dX7_sees_16,
    ok_iald hM dX7_sees_19,
    ok_iload_n hM 1 dX7_sees_20 rfl,
    ok_iload_n hM 2 dX7_sees_21 rfl,
    ok_SR (ok_callS hM [] (ctX7_in l) rfl gX7_sees_X7_in rfl rfl rfl (by decide +kernel) (by decide) dX7_sees_22),
    ok_FR (ok_if_eq hM 32 dX7_sees_25 (by decide)),
    ok_iconst hM dX7_sees_28 rfl,
    ok_goto hM 33 dX7_sees_29 (by decide),
    ok_iconst hM dX7_sees_32 rfl,
    ok_retZ hM hE dX7_sees_33,
    trivial⟩
set_option maxRecDepth 100000 in
theorem ctX7_sees (l : Launch) : Ct l yX7_sees wsX7_sees rmX7_sees 0 0 false sX7_sees := by
  refine ct_of (own := RX7) (cc := cX7_sees) (maxL := 3) (ret := (some .boolean)) (by decide) rfl rfl (by rintro _ _ _ ⟨x, y, lo, hi, n, p, ch, R, P, S, hs, tg, st, nu, th, r, rfl, rfl, rfl, hlo, hhi, hn, hp, hch, rfl, hK⟩; exact Nat.le_of_ble_eq_true rfl) ?_
  intro X av es K hM hE hag hin hnL hsp
  obtain ⟨x, y, lo, hi, n, p, ch, R, P, S, hs, tg, st, nu, th, r, rfl, rfl, rfl, hlo, hhi, hn, hp, hch, rfl, hK⟩ := hsp
  have hf := kX7_sees hM hE hnL
  refine wr_ok hf cut_nil 5 0 _ _ _ _ _ ?_
  refine ⟨fun h1 => ?_, fun h1 => ?_⟩
  · have h2 : ¬ p < n := by
      rw [nI_leI (by omega) (by omega)] at h1
      omega
    have e1 : seB ch n p lo hi = false := by
      unfold seB
      rw [decide_eq_false (fun q => h2 q.1)]
    rw [e1] at hK
    exact ⟨by decide, hK⟩
  · have h2 : p < n := by
      rw [nI_leI (by omega) (by omega)] at h1
      omega
    have hc := hch p h2
    have e1 : seB ch n p lo hi = (decide (nI lo ≤ nI (ch p)) && decide (nI (ch p) ≤ nI hi)) := by
      unfold seB
      rw [← Bool.decide_and]
      exact decide_eq_decide.mpr ⟨fun q => ⟨(nI_leI (by omega) (by omega)).mpr q.2.1, (nI_leI (by omega) (by omega)).mpr q.2.2⟩, fun q => ⟨h2, (nI_leI (by omega) (by omega)).mp q.1, (nI_leI (by omega) (by omega)).mp q.2⟩⟩
    refine ⟨p, rfl, by omega, ?_⟩
    refine ⟨_, _, _, rfl, rfl, ?_⟩
    refine ⟨fun h3 => ?_, fun h3 => ?_⟩
    · have e2 : seB ch n p lo hi = false := by rw [e1]; exact bI_0.mp h3
      rw [e2] at hK
      exact ⟨by decide, hK⟩
    · have e2 : seB ch n p lo hi = true := by
        cases hq : seB ch n p lo hi with
        | false => exact absurd (bI_0.mpr (e1.symm.trans hq)) h3
        | true => rfl
      rw [e2] at hK
      exact ⟨by decide, hK⟩
def tkN (ch : Nat → Nat) (n p c : Nat) : Nat := if seB ch n p c c = true then p + 1 else p
def sX7_takes : gS := fun av es K => ∃ x c n p ch R P S hs tg st nu th r, av = [.ref 0, .int x] ∧ x = nI c ∧ c < 1000 ∧ n ≤ 80 ∧ p < 1000 ∧ (∀ j, j < n → ch j < 1000) ∧ es = mdW R P S hs tg (nF ch) st (nI n) (nI p) nu th r ∧ K (some (.int (bI (seB ch n p c c)))) (mdW R P S hs tg (nF ch) st (nI n) (nI (tkN ch n p c)) nu th r)
def rmX7_takes : Room := { frames := 2, cells := 0, slots := 0, locals := 44 }
def pX7_takes (K : gK) : List (Nat × gO) := [(0, oFR 7 (oALoad 0)), (1, oILoad 1), (2, oILoad 1), (3, oCallV0 0 0 7 2 sX7_sees), (6, oFR 7 (oIStore 3 2)), (7, oFR 7 (oALoad 0)), (8, oDup), (9, oGet 7 8), (12, oILoad 2), (13, oIf_eq 20), (16, oConst (nI 1)), (17, oGoto 21), (20, oConst (nI 0)), (21, oAdd), (22, oPutI 7 8), (25, oFR 7 (oILoad 2)), (26, oRetZ K 0 0)]
set_option maxRecDepth 100000 in
theorem kX7_takes {X : gX} {l : Launch} (hM : gM X l cX7_takes RX7 wsX7_takes rmX7_takes) {K : gK} (hE : gR X K 0 0 (some .boolean)) (hnL : X.2.2.2.2.2.2.2.2.2.2.2.2.2.2.2.2 = 3) : okL X (pX7_takes K) := by
  obtain ⟨p, l1, e, R, s, m, args, below, meth, c, D, cA, A, ag, ad0, Q, nL⟩ := X
  cases hnL
  refine ⟨ok_FR (ok_aload_n hM 0 dX7_takes_0 rfl),
    ok_iload_n hM 1 dX7_takes_1 rfl,
    ok_iload_n hM 1 dX7_takes_2 rfl,
    ok_callV0 hM (ctX7_sees l) rfl gX7_takes_X7_sees rfl rfl rfl (by decide +kernel) (by decide) dX7_takes_3,
    ok_FR (ok_istore_n hM 2 dX7_takes_6 rfl),
    ok_FR (ok_aload_n hM 0 dX7_takes_7 rfl),
    ok_dup hM dX7_takes_8,
    ok_get (C := RX7) (T := TX7) (Nf := 11) hM (fun _ h => List.mem_cons_of_mem _ (List.mem_append_right _ h)) rfl 8 (by decide) (List.mem_of_getElem? (i := 1) rfl) rfl dX7_takes_9,
    ok_iload_n hM 2 dX7_takes_12 rfl,
    ok_if_eq hM 20 dX7_takes_13 (by decide),
    ok_iconst hM dX7_takes_16 rfl,
    ok_goto hM 21 dX7_takes_17 (by decide),
    ok_iconst hM dX7_takes_20 rfl,
    ok_iadd hM dX7_takes_21,
    ok_putI (C := RX7) (T := TX7) (Nf := 11) hM (fun _ h => List.mem_cons_of_mem _ (List.mem_append_right _ h)) tyX7 tyX7_ok nmX7 rfl 8 (by decide) (List.mem_of_getElem? (i := 1) rfl) rfl rfl (by decide +kernel) dX7_takes_22,
    ok_FR (ok_iload_n hM 2 dX7_takes_25 rfl),
    ok_retZ hM hE dX7_takes_26,
    trivial⟩
set_option maxRecDepth 100000 in
theorem ctX7_takes (l : Launch) : Ct l yX7_takes wsX7_takes rmX7_takes 0 0 false sX7_takes := by
  refine ct_of (own := RX7) (cc := cX7_takes) (maxL := 3) (ret := (some .boolean)) (by decide) rfl rfl (by rintro _ _ _ ⟨x, c, n, p, ch, R, P, S, hs, tg, st, nu, th, r, rfl, rfl, hc, hn, hp, hch, rfl, hK⟩; exact Nat.le_of_ble_eq_true rfl) ?_
  intro X av es K hM hE hag hin hnL hsp
  obtain ⟨x, c, n, p, ch, R, P, S, hs, tg, st, nu, th, r, rfl, rfl, hc, hn, hp, hch, rfl, hK⟩ := hsp
  have hf := kX7_takes hM hE hnL
  refine wr_ok hf cut_nil 5 0 _ _ _ _ _ ?_
  refine ⟨_, _, c, c, n, p, ch, R, P, S, hs, tg, st, nu, th, r, rfl, rfl, rfl, hc, hc, hn, hp, hch, rfl, ?_⟩
  unfold tkN at hK
  refine ⟨fun h3 => ?_, fun h3 => ?_⟩
  · have e2 : seB ch n p c c = false := bI_0.mp h3
    rw [e2] at hK ⊢
    rw [if_neg (by decide)] at hK
    have hK2 : ∀ q, q = nI p → K (some (.int (bI false))) (mdW R P S hs tg (nF ch) st (nI n) q nu th r) := fun q hq => by rw [hq]; exact hK
    exact ⟨by decide, hK2 _ (nI_add p 0)⟩
  · have e2 : seB ch n p c c = true := by
      cases hq : seB ch n p c c with
      | false => exact absurd (bI_0.mpr hq) h3
      | true => rfl
    rw [e2] at hK ⊢
    rw [if_pos rfl] at hK
    have hK2 : ∀ q, q = nI (p + 1) → K (some (.int (bI true))) (mdW R P S hs tg (nF ch) st (nI n) q nu th r) := fun q hq => by rw [hq]; exact hK
    exact ⟨by decide, hK2 _ (nI_add p 1)⟩
end MM7

/-! CommandText: contracts. -/
section MC
variable {X : gX} {l0 : Launch} {cc : ByteArray} {own : String} {Ts : List Cond} {R0 : Room} {pc : Nat}
def tsel (lo dflt : Nat) (tgts : List Nat) (m : Nat) : Nat := bif Nat.ble lo m then tgts.getD (m - lo) dflt else dflt
def oTable (lo dflt : Nat) (tgts : List Nat) : gO := fun J _ L S es k n => match S with
  | .int x :: S' => ∃ m : Nat, x = nI m ∧ m < 100000 ∧ J (tsel lo dflt tgts m) L S' es k n
  | _ => False
theorem ok_table (hM : gM X l0 cc own Ts R0) {nx : Nat} {dflt lo hi : Int} {offs : Array Int} {len : Nat} (lo' dflt' : Nat) (tgts : List Nat) (hd : decode cc pc = .ok (.tableswitch dflt lo hi offs, len)) (hlo : lo = lo') (hhi : hi + 1 = lo' + tgts.length) (hdf : (pc : Int) + dflt = dflt') (ht : tgts.map (fun t : Nat => (t : Int) - (pc : Int)) = offs.toList) : okO X pc nx (oTable lo' dflt' tgts) := by
  obtain ⟨p, l, e, R, s, m, args, below, meth, c, D, cA, A, ag, ad0, Q, nL⟩ := X
  obtain ⟨hx, hb, hown, hts, hml, hlk, hY, hA, hR, hL0⟩ := hM
  intro J N hJ hN L S es k n h ad H locs ls hag hP hD hS hl
  unfold oTable at h
  split at h
  · rename_i x S'
    obtain ⟨m9, rfl, hm9, h⟩ := h
    have hi9 : (nI m9).toInt = (m9 : Int) := nI_toInt (by omega)
    by_cases hin : lo' ≤ m9 ∧ m9 < lo' + tgts.length
    · have hsel : tsel lo' dflt' tgts m9 = tgts[m9 - lo']'(by omega) := by
        unfold tsel
        rw [Nat.ble_eq_true_of_le hin.1, List.getD_eq_getElem?_getD, List.getElem?_eq_getElem (by omega)]
        rfl
      rw [hsel] at h
      have hoff : offs[((nI m9).toInt - lo).toNat]? = some ((tgts[m9 - lo']'(by omega) : Int) - pc) := by
        have e1 : ((nI m9).toInt - lo).toNat = m9 - lo' := by rw [hi9, hlo]; omega
        rw [e1, ← Array.getElem?_toList, ← ht, List.getElem?_map, List.getElem?_eq_getElem (by omega)]
        rfl
      exact lv_tableIn hx hb hd (by rw [hi9, hlo]; omega) (by rw [hi9]; omega) hoff (by omega) (hJ _ _ _ _ _ _ h ad H locs ls hag hP hD hS hl)
    · have hsel : tsel lo' dflt' tgts m9 = dflt' := by
        unfold tsel
        cases hb9 : Nat.ble lo' m9 with
        | false => rfl
        | true =>
          have := Nat.le_of_ble_eq_true hb9
          rw [List.getD_eq_getElem?_getD, List.getElem?_eq_none (by omega)]
          rfl
      rw [hsel] at h
      exact lv_tableOut hx hb hd (by rw [hi9, hlo]; omega) hdf (hJ _ _ _ _ _ _ h ad H locs ls hag hP hD hS hl)
  · exact h.elim
abbrev tx0 (f : Nat → Int32) (len : Int32) : List gE := [.inr (0, [.ref 1, .int len]), .inl (1, 80, .inl f)]
def chU (ch : Nat → Nat) (n c : Nat) : Nat → Nat := fun j => if j = n then c else ch j
theorem chU_fun (ch : Nat → Nat) (n c : Nat) : upd (nF ch) n (nI c) = nF (chU ch n c) := by
  funext j
  unfold upd nF chU
  by_cases h : j = n
  · rw [if_pos h, if_pos h]
  · rw [if_neg h, if_neg h]
theorem nar_char {c : Nat} (h : c < 65536) : vp_nar .char (nI c) = nI c := by
  have h1 := (pk_charN h).1
  unfold vp_nar
  rw [h1]
def sX0_append : gS := fun av es K => ∃ x c n ch, av = [.ref 0, .int x] ∧ x = nI c ∧ c < 65536 ∧ n < 80 ∧ es = tx0 (nF ch) (nI n) ∧ K none (tx0 (nF (chU ch n c)) (nI (n + 1)))
def rmX0_append : Room := { frames := 0, cells := 0, slots := 0, locals := 0 }
def pX0_append (K : gK) : List (Nat × gO) := [(0, oF (oALoad 0)), (1, oGet 0 1), (4, oConst (nI 80)), (6, oICmp_ge 29), (9, oALoad 0), (10, oGet 0 0), (13, oALoad 0), (14, oGet 0 1), (17, oILoad 1), (18, oCASt), (19, oF (oALoad 0)), (20, oDup), (21, oGet 0 1), (24, oConst (nI 1)), (25, oAdd), (26, oPutI 0 1), (29, oF (oRetV K 0 0))]
set_option maxRecDepth 100000 in
theorem kX0_append {X : gX} {l : Launch} (hM : gM X l cX0_append RX0 wsX0_append rmX0_append) {K : gK} (hE : gR X K 0 0 none) (hnL : X.2.2.2.2.2.2.2.2.2.2.2.2.2.2.2.2 = 2) : okL X (pX0_append K) := by
  obtain ⟨p, l1, e, R, s, m, args, below, meth, c, D, cA, A, ag, ad0, Q, nL⟩ := X
  cases hnL
  refine ⟨ok_F (ok_aload_n hM 0 dX0_append_0 rfl),
    ok_get (C := RX0) (T := TX0) (Nf := 2) hM (fun _ h => List.mem_cons_of_mem _ (List.mem_append_right _ h)) rfl 1 (by decide) (List.mem_of_getElem? (i := 1) rfl) rfl dX0_append_1,
    ok_bipush hM dX0_append_4 rfl,
    ok_icmp_ge hM 29 dX0_append_6 (by decide),
    ok_aload_n hM 0 dX0_append_9 rfl,
    ok_get (C := RX0) (T := TX0) (Nf := 2) hM (fun _ h => List.mem_cons_of_mem _ (List.mem_append_right _ h)) rfl 0 (by decide) (List.mem_of_getElem? (i := 2) rfl) rfl dX0_append_10,
    ok_aload_n hM 0 dX0_append_13 rfl,
    ok_get (C := RX0) (T := TX0) (Nf := 2) hM (fun _ h => List.mem_cons_of_mem _ (List.mem_append_right _ h)) rfl 1 (by decide) (List.mem_of_getElem? (i := 1) rfl) rfl dX0_append_14,
    ok_iload_n hM 1 dX0_append_17 rfl,
    ok_cast hM dX0_append_18,
    ok_F (ok_aload_n hM 0 dX0_append_19 rfl),
    ok_dup hM dX0_append_20,
    ok_get (C := RX0) (T := TX0) (Nf := 2) hM (fun _ h => List.mem_cons_of_mem _ (List.mem_append_right _ h)) rfl 1 (by decide) (List.mem_of_getElem? (i := 1) rfl) rfl dX0_append_21,
    ok_iconst hM dX0_append_24 rfl,
    ok_iadd hM dX0_append_25,
    ok_putI (C := RX0) (T := TX0) (Nf := 2) hM (fun _ h => List.mem_cons_of_mem _ (List.mem_append_right _ h)) tyX0 tyX0_ok nmX0 rfl 1 (by decide) (List.mem_of_getElem? (i := 1) rfl) rfl rfl (by decide +kernel) dX0_append_26,
    ok_F (ok_retV hM hE dX0_append_29),
    trivial⟩
set_option maxRecDepth 100000 in
theorem ctX0_append (l : Launch) : Ct l yX0_append wsX0_append rmX0_append 0 0 false sX0_append := by
  refine ct_of (own := RX0) (cc := cX0_append) (maxL := 2) (ret := none) (by decide) rfl rfl (by rintro _ _ _ ⟨x, c, n, ch, rfl, rfl, hc9, hn, rfl, hK⟩; exact Nat.le_of_ble_eq_true rfl) ?_
  intro X av es K hM hE hag hin hnL hsp
  obtain ⟨x, c, n, ch, rfl, rfl, hc9, hn, rfl, hK⟩ := hsp
  have hf := kX0_append hM hE hnL
  refine wr_ok hf cut_nil 5 0 _ _ _ _ _ ?_
  rw [← chU_fun, ← nI_add] at hK
  refine ⟨fun h => ?_, fun h => ?_⟩
  · rw [nI_leI (by decide) (by omega)] at h
    omega
  · refine ⟨n, rfl, hn, nar_char hc9, ?_⟩
    exact hK
def sgn (ch : Nat → Nat) (n i : Nat) : Int32 := if i < n then nI (ch i) else -1
def sX0_signAt : gS := fun av es K => ∃ x i n ch, av = [.ref 0, .int x] ∧ x = nI i ∧ i < 1000 ∧ n ≤ 80 ∧ es = tx0 (nF ch) (nI n) ∧ K (some (.int (sgn ch n i))) es
def rmX0_signAt : Room := { frames := 0, cells := 0, slots := 0, locals := 0 }
def pX0_signAt (K : gK) : List (Nat × gO) := [(0, oF (oILoad 1)), (1, oIf_lt 27), (4, oILoad 1), (5, oALoad 0), (6, oGet 0 1), (9, oICmp_ge 27), (12, oILoad 1), (13, oConst (nI 80)), (15, oICmp_ge 27), (18, oALoad 0), (19, oGet 0 0), (22, oILoad 1), (23, oIALd 1), (24, oGoto 28), (27, oConst (-1)), (28, oRet K 0 0)]
set_option maxRecDepth 100000 in
theorem kX0_signAt {X : gX} {l : Launch} (hM : gM X l cX0_signAt RX0 wsX0_signAt rmX0_signAt) {K : gK} (hE : gR X K 0 0 (some .int)) (hnL : X.2.2.2.2.2.2.2.2.2.2.2.2.2.2.2.2 = 2) : okL X (pX0_signAt K) := by
  obtain ⟨p, l1, e, R, s, m, args, below, meth, c, D, cA, A, ag, ad0, Q, nL⟩ := X
  cases hnL
  refine ⟨ok_F (ok_iload_n hM 1 dX0_signAt_0 rfl),
    ok_if_lt hM 27 dX0_signAt_1 (by decide),
    ok_iload_n hM 1 dX0_signAt_4 rfl,
    ok_aload_n hM 0 dX0_signAt_5 rfl,
    ok_get (C := RX0) (T := TX0) (Nf := 2) hM (fun _ h => List.mem_cons_of_mem _ (List.mem_append_right _ h)) rfl 1 (by decide) (List.mem_of_getElem? (i := 1) rfl) rfl dX0_signAt_6,
    ok_icmp_ge hM 27 dX0_signAt_9 (by decide),
    ok_iload_n hM 1 dX0_signAt_12 rfl,
    ok_bipush hM dX0_signAt_13 rfl,
    ok_icmp_ge hM 27 dX0_signAt_15 (by decide),
    ok_aload_n hM 0 dX0_signAt_18 rfl,
    ok_get (C := RX0) (T := TX0) (Nf := 2) hM (fun _ h => List.mem_cons_of_mem _ (List.mem_append_right _ h)) rfl 0 (by decide) (List.mem_of_getElem? (i := 2) rfl) rfl dX0_signAt_19,
    ok_iload_n hM 1 dX0_signAt_22 rfl,
    ok_cald hM dX0_signAt_23,
    ok_goto hM 28 dX0_signAt_24 (by decide),
    ok_iconst hM dX0_signAt_27 rfl,
    ok_ret hM hE dX0_signAt_28,
    trivial⟩
set_option maxRecDepth 100000 in
theorem ctX0_signAt (l : Launch) : Ct l yX0_signAt wsX0_signAt rmX0_signAt 0 0 false sX0_signAt := by
  refine ct_of (own := RX0) (cc := cX0_signAt) (maxL := 2) (ret := (some .int)) (by decide) rfl rfl (by rintro _ _ _ ⟨x, i, n, ch, rfl, rfl, hi, hn, rfl, hK⟩; exact Nat.le_of_ble_eq_true rfl) ?_
  intro X av es K hM hE hag hin hnL hsp
  obtain ⟨x, i, n, ch, rfl, rfl, hi, hn, rfl, hK⟩ := hsp
  have hf := kX0_signAt hM hE hnL
  refine wr_ok hf cut_nil 5 0 _ _ _ _ _ ?_
  unfold sgn at hK
  refine ⟨fun h => ?_, fun h => ?_⟩
  · exact absurd h (nI_pos (by omega))
  · refine ⟨fun h2 => ?_, fun h2 => ?_⟩
    · rw [nI_leI (by omega) (by omega)] at h2
      rw [if_neg (by omega)] at hK
      exact hK
    · rw [nI_leI (by omega) (by omega)] at h2
      rw [if_pos (by omega)] at hK
      refine ⟨fun h3 => ?_, fun h3 => ?_⟩
      · rw [nI_leI (by decide) (by omega)] at h3
        omega
      · refine ⟨i, rfl, by omega, ?_⟩
        exact hK
def sX0_commandBeginsAt : gS := fun av es K => ∃ x i n ch, av = [.ref 0, .int x] ∧ x = nI i ∧ i < 1000 ∧ n ≤ 80 ∧ es = tx0 (nF ch) (nI n) ∧ K (some (.int (bI (decide (i = 0) || decide (sgn ch n (i - 1) = nI 59))))) es
def rmX0_commandBeginsAt : Room := { frames := 1, cells := 0, slots := 0, locals := 21 }
def pX0_commandBeginsAt (K : gK) : List (Nat × gO) := [(0, oF (oILoad 1)), (1, oIf_eq 16), (4, oALoad 0), (5, oILoad 1), (6, oConst (nI 1)), (7, oSub), (8, oCallV 0 0 0 1 [0,1] sX0_signAt), (11, oConst (nI 59)), (13, oF (oICmp_ne 20)), (16, oConst (nI 1)), (17, oGoto 21), (20, oConst (nI 0)), (21, oRetZ K 0 0)]
set_option maxRecDepth 100000 in
theorem kX0_commandBeginsAt {X : gX} {l : Launch} (hM : gM X l cX0_commandBeginsAt RX0 wsX0_commandBeginsAt rmX0_commandBeginsAt) {K : gK} (hE : gR X K 0 0 (some .boolean)) (hnL : X.2.2.2.2.2.2.2.2.2.2.2.2.2.2.2.2 = 2) : okL X (pX0_commandBeginsAt K) := by
  obtain ⟨p, l1, e, R, s, m, args, below, meth, c, D, cA, A, ag, ad0, Q, nL⟩ := X
  cases hnL
  refine ⟨ok_F (ok_iload_n hM 1 dX0_commandBeginsAt_0 rfl),
    ok_if_eq hM 16 dX0_commandBeginsAt_1 (by decide),
    ok_aload_n hM 0 dX0_commandBeginsAt_4 rfl,
    ok_iload_n hM 1 dX0_commandBeginsAt_5 rfl,
    ok_iconst hM dX0_commandBeginsAt_6 rfl,
    ok_isub hM dX0_commandBeginsAt_7,
    ok_callV hM [0,1] (ctX0_signAt l) rfl rfl gX0_commandBeginsAt_X0_signAt rfl rfl rfl (by decide +kernel) (by decide) dX0_commandBeginsAt_8,
    ok_bipush hM dX0_commandBeginsAt_11 rfl,
    ok_F (ok_icmp_ne hM 20 dX0_commandBeginsAt_13 (by decide)),
    ok_iconst hM dX0_commandBeginsAt_16 rfl,
    ok_goto hM 21 dX0_commandBeginsAt_17 (by decide),
    ok_iconst hM dX0_commandBeginsAt_20 rfl,
    ok_retZ hM hE dX0_commandBeginsAt_21,
    trivial⟩
set_option maxRecDepth 100000 in
theorem ctX0_commandBeginsAt (l : Launch) : Ct l yX0_commandBeginsAt wsX0_commandBeginsAt rmX0_commandBeginsAt 0 0 false sX0_commandBeginsAt := by
  refine ct_of (own := RX0) (cc := cX0_commandBeginsAt) (maxL := 2) (ret := (some .boolean)) (by decide) rfl rfl (by rintro _ _ _ ⟨x, i, n, ch, rfl, rfl, hi, hn, rfl, hK⟩; exact Nat.le_of_ble_eq_true rfl) ?_
  intro X av es K hM hE hag hin hnL hsp
  obtain ⟨x, i, n, ch, rfl, rfl, hi, hn, rfl, hK⟩ := hsp
  have hf := kX0_commandBeginsAt hM hE hnL
  refine wr_ok hf cut_nil 5 0 _ _ _ _ _ ?_
  refine ⟨fun h => ?_, fun h => ?_⟩
  · have h0 : i = 0 := by
      rcases Nat.eq_zero_or_pos i with q | q
      · exact q
      · exact absurd h (nI_ne0 q (by omega))
    subst h0
    exact ⟨by decide, hK⟩
  · have h0 : 0 < i := by
      rcases Nat.eq_zero_or_pos i with q | q
      · subst q; exact absurd rfl h
      · exact q
    rw [decide_eq_false (show ¬ i = 0 by omega), Bool.false_or] at hK
    refine ⟨_, i - 1, n, ch, rfl, pk_sub h0, by omega, hn, rfl, ?_⟩
    refine ⟨fun h2 => ?_, fun h2 => ?_⟩
    · first
        | (rw [decide_eq_true h2] at hK; exact ⟨by decide, hK⟩)
        | (rw [decide_eq_false h2] at hK; exact ⟨by decide, hK⟩)
    · first
        | (rw [decide_eq_true h2] at hK; exact ⟨by decide, hK⟩)
        | (rw [decide_eq_false h2] at hK; exact ⟨by decide, hK⟩)
def sX0_isDigit : gS := fun av es K => ∃ x, av = [.int x] ∧ es = [] ∧ K (some (.int (bI (decide (nI 48 ≤ x) && decide (x ≤ nI 57))))) []
def rmX0_isDigit : Room := { frames := 0, cells := 0, slots := 0, locals := 0 }
def pX0_isDigit (K : gK) : List (Nat × gO) := [(0, oF (oILoad 0)), (1, oConst (nI 48)), (3, oICmp_lt 16), (6, oILoad 0), (7, oConst (nI 57)), (9, oICmp_gt 16), (12, oConst (nI 1)), (13, oGoto 17), (16, oConst (nI 0)), (17, oRetZ K 0 0)]
set_option maxRecDepth 100000 in
theorem kX0_isDigit {X : gX} {l : Launch} (hM : gM X l cX0_isDigit RX0 wsX0_isDigit rmX0_isDigit) {K : gK} (hE : gR X K 0 0 (some .boolean)) (hnL : X.2.2.2.2.2.2.2.2.2.2.2.2.2.2.2.2 = 1) : okL X (pX0_isDigit K) := by
  obtain ⟨p, l1, e, R, s, m, args, below, meth, c, D, cA, A, ag, ad0, Q, nL⟩ := X
  cases hnL
  refine ⟨ok_F (ok_iload_n hM 0 dX0_isDigit_0 rfl),
    ok_bipush hM dX0_isDigit_1 rfl,
    ok_icmp_lt hM 16 dX0_isDigit_3 (by decide),
    ok_iload_n hM 0 dX0_isDigit_6 rfl,
    ok_bipush hM dX0_isDigit_7 rfl,
    ok_icmp_gt hM 16 dX0_isDigit_9 (by decide),
    ok_iconst hM dX0_isDigit_12 rfl,
    ok_goto hM 17 dX0_isDigit_13 (by decide),
    ok_iconst hM dX0_isDigit_16 rfl,
    ok_retZ hM hE dX0_isDigit_17,
    trivial⟩
set_option maxRecDepth 100000 in
theorem ctX0_isDigit (l : Launch) : Ct l yX0_isDigit wsX0_isDigit rmX0_isDigit 0 0 false sX0_isDigit := by
  refine ct_of (own := RX0) (cc := cX0_isDigit) (maxL := 1) (ret := (some .boolean)) (by decide) rfl rfl (by rintro _ _ _ ⟨x, rfl, rfl, hK⟩; exact Nat.le_of_ble_eq_true rfl) ?_
  intro X av es K hM hE hag hin hnL hsp
  obtain ⟨x, rfl, rfl, hK⟩ := hsp
  have hf := kX0_isDigit hM hE hnL
  refine wr_ok hf cut_nil 5 0 _ _ _ _ _ ?_
  refine ⟨fun h => ?_, fun h => ?_⟩
  · have h1 : ¬ nI 48 ≤ x := by first | exact h | exact Int32.not_le.mpr h
    rw [decide_eq_false h1] at hK
    exact ⟨by decide, hK⟩
  · have h1 : nI 48 ≤ x := by first | exact h | exact Int32.not_lt.mp h
    rw [decide_eq_true h1] at hK
    refine ⟨fun h2 => ?_, fun h2 => ?_⟩
    · have h3 : ¬ x ≤ nI 57 := by first | exact h2 | exact Int32.not_le.mpr h2
      rw [decide_eq_false h3] at hK
      exact ⟨by decide, hK⟩
    · have h3 : x ≤ nI 57 := by first | exact h2 | exact Int32.not_lt.mp h2
      rw [decide_eq_true h3] at hK
      exact ⟨by decide, hK⟩
def sX0_isTenantDigit : gS := fun av es K => ∃ x, av = [.int x] ∧ es = [] ∧ K (some (.int (bI (decide (nI 48 ≤ x) && decide (x < nI 52))))) []
def rmX0_isTenantDigit : Room := { frames := 0, cells := 0, slots := 0, locals := 0 }
def pX0_isTenantDigit (K : gK) : List (Nat × gO) := [(0, oF (oILoad 0)), (1, oConst (nI 48)), (3, oICmp_lt 16), (6, oILoad 0), (7, oConst (nI 52)), (9, oICmp_ge 16), (12, oConst (nI 1)), (13, oGoto 17), (16, oConst (nI 0)), (17, oRetZ K 0 0)]
set_option maxRecDepth 100000 in
theorem kX0_isTenantDigit {X : gX} {l : Launch} (hM : gM X l cX0_isTenantDigit RX0 wsX0_isTenantDigit rmX0_isTenantDigit) {K : gK} (hE : gR X K 0 0 (some .boolean)) (hnL : X.2.2.2.2.2.2.2.2.2.2.2.2.2.2.2.2 = 1) : okL X (pX0_isTenantDigit K) := by
  obtain ⟨p, l1, e, R, s, m, args, below, meth, c, D, cA, A, ag, ad0, Q, nL⟩ := X
  cases hnL
  refine ⟨ok_F (ok_iload_n hM 0 dX0_isTenantDigit_0 rfl),
    ok_bipush hM dX0_isTenantDigit_1 rfl,
    ok_icmp_lt hM 16 dX0_isTenantDigit_3 (by decide),
    ok_iload_n hM 0 dX0_isTenantDigit_6 rfl,
    ok_bipush hM dX0_isTenantDigit_7 rfl,
    ok_icmp_ge hM 16 dX0_isTenantDigit_9 (by decide),
    ok_iconst hM dX0_isTenantDigit_12 rfl,
    ok_goto hM 17 dX0_isTenantDigit_13 (by decide),
    ok_iconst hM dX0_isTenantDigit_16 rfl,
    ok_retZ hM hE dX0_isTenantDigit_17,
    trivial⟩
set_option maxRecDepth 100000 in
theorem ctX0_isTenantDigit (l : Launch) : Ct l yX0_isTenantDigit wsX0_isTenantDigit rmX0_isTenantDigit 0 0 false sX0_isTenantDigit := by
  refine ct_of (own := RX0) (cc := cX0_isTenantDigit) (maxL := 1) (ret := (some .boolean)) (by decide) rfl rfl (by rintro _ _ _ ⟨x, rfl, rfl, hK⟩; exact Nat.le_of_ble_eq_true rfl) ?_
  intro X av es K hM hE hag hin hnL hsp
  obtain ⟨x, rfl, rfl, hK⟩ := hsp
  have hf := kX0_isTenantDigit hM hE hnL
  refine wr_ok hf cut_nil 5 0 _ _ _ _ _ ?_
  refine ⟨fun h => ?_, fun h => ?_⟩
  · have h1 : ¬ nI 48 ≤ x := by first | exact h | exact Int32.not_le.mpr h
    rw [decide_eq_false h1] at hK
    exact ⟨by decide, hK⟩
  · have h1 : nI 48 ≤ x := by first | exact h | exact Int32.not_lt.mp h
    rw [decide_eq_true h1] at hK
    refine ⟨fun h2 => ?_, fun h2 => ?_⟩
    · have h3 : ¬ x < nI 52 := by first | exact h2 | exact Int32.not_lt.mpr h2
      rw [decide_eq_false h3] at hK
      exact ⟨by decide, hK⟩
    · have h3 : x < nI 52 := by first | exact h2 | exact Int32.not_le.mp h2
      rw [decide_eq_true h3] at hK
      exact ⟨by decide, hK⟩
def sX0_mayGoOn : gS := fun av es K => ∃ x y, av = [.int x, .int y] ∧ es = [] ∧ K (some (.int (bI (decide (¬ x = 0) && decide (x * nI 10 + y < nI 256))))) []
def rmX0_mayGoOn : Room := { frames := 0, cells := 0, slots := 0, locals := 0 }
def pX0_mayGoOn (K : gK) : List (Nat × gO) := [(0, oF (oILoad 0)), (1, oIf_eq 20), (4, oILoad 0), (5, oConst (nI 10)), (7, oMul), (8, oILoad 1), (9, oAdd), (10, oConst (nI 256)), (13, oICmp_ge 20), (16, oConst (nI 1)), (17, oGoto 21), (20, oConst (nI 0)), (21, oRetZ K 0 0)]
set_option maxRecDepth 100000 in
theorem kX0_mayGoOn {X : gX} {l : Launch} (hM : gM X l cX0_mayGoOn RX0 wsX0_mayGoOn rmX0_mayGoOn) {K : gK} (hE : gR X K 0 0 (some .boolean)) (hnL : X.2.2.2.2.2.2.2.2.2.2.2.2.2.2.2.2 = 2) : okL X (pX0_mayGoOn K) := by
  obtain ⟨p, l1, e, R, s, m, args, below, meth, c, D, cA, A, ag, ad0, Q, nL⟩ := X
  cases hnL
  refine ⟨ok_F (ok_iload_n hM 0 dX0_mayGoOn_0 rfl),
    ok_if_eq hM 20 dX0_mayGoOn_1 (by decide),
    ok_iload_n hM 0 dX0_mayGoOn_4 rfl,
    ok_bipush hM dX0_mayGoOn_5 rfl,
    ok_imul hM dX0_mayGoOn_7,
    ok_iload_n hM 1 dX0_mayGoOn_8 rfl,
    ok_iadd hM dX0_mayGoOn_9,
    ok_sipush hM dX0_mayGoOn_10 rfl,
    ok_icmp_ge hM 20 dX0_mayGoOn_13 (by decide),
    ok_iconst hM dX0_mayGoOn_16 rfl,
    ok_goto hM 21 dX0_mayGoOn_17 (by decide),
    ok_iconst hM dX0_mayGoOn_20 rfl,
    ok_retZ hM hE dX0_mayGoOn_21,
    trivial⟩
set_option maxRecDepth 100000 in
theorem ctX0_mayGoOn (l : Launch) : Ct l yX0_mayGoOn wsX0_mayGoOn rmX0_mayGoOn 0 0 false sX0_mayGoOn := by
  refine ct_of (own := RX0) (cc := cX0_mayGoOn) (maxL := 2) (ret := (some .boolean)) (by decide) rfl rfl (by rintro _ _ _ ⟨x, y, rfl, rfl, hK⟩; exact Nat.le_of_ble_eq_true rfl) ?_
  intro X av es K hM hE hag hin hnL hsp
  obtain ⟨x, y, rfl, rfl, hK⟩ := hsp
  have hf := kX0_mayGoOn hM hE hnL
  refine wr_ok hf cut_nil 5 0 _ _ _ _ _ ?_
  refine ⟨fun h => ?_, fun h => ?_⟩
  · rw [decide_eq_false (show ¬ ¬ x = 0 from fun q => q h)] at hK
    exact ⟨by decide, hK⟩
  · rw [decide_eq_true h] at hK
    refine ⟨fun h2 => ?_, fun h2 => ?_⟩
    · have h3 : ¬ x * nI 10 + y < nI 256 := by first | exact h2 | exact Int32.not_lt.mpr h2
      rw [decide_eq_false h3] at hK
      exact ⟨by decide, hK⟩
    · have h3 : x * nI 10 + y < nI 256 := by first | exact h2 | exact Int32.not_le.mp h2
      rw [decide_eq_true h3] at hK
      exact ⟨by decide, hK⟩
def stg1 (c : Nat) : Nat := if 48 ≤ c ∧ c < 52 then 2 else if c = 102 then 5 else if c = 109 ∨ c = 104 then 6 else 0
theorem ten_eq {c : Nat} (hc : c < 1000) : (decide (nI 48 ≤ nI c) && decide (nI c < nI 52)) = decide (48 ≤ c ∧ c < 52) := by
  have h1 := nI_leI (a := 48) (b := c) (by decide) (by omega)
  have h2 := nI_ltI (a := c) (b := 52) (by omega) (by decide)
  simp only [h1, h2, Bool.decide_and]
theorem dig_eq {c : Nat} (hc : c < 1000) : (decide (nI 48 ≤ nI c) && decide (nI c ≤ nI 57)) = decide (48 ≤ c ∧ c ≤ 57) := by
  have h1 := nI_leI (a := 48) (b := c) (by decide) (by omega)
  have h2 := nI_leI (a := c) (b := 57) (by omega) (by decide)
  simp only [h1, h2, Bool.decide_and]
def sX0_stageAfterFirst : gS := fun av es K => ∃ x c, av = [.int x] ∧ x = nI c ∧ c < 1000 ∧ es = [] ∧ K (some (.int (nI (stg1 c)))) []
def rmX0_stageAfterFirst : Room := { frames := 1, cells := 0, slots := 0, locals := 20 }
def pX0_stageAfterFirst (K : gK) : List (Nat × gO) := [(0, oF (oILoad 0)), (1, oCallS 0 0 1 [] sX0_isTenantDigit), (4, oF (oIf_eq 9)), (7, oConst (nI 2)), (8, oRet K 0 0), (9, oILoad 0), (10, oConst (nI 102)), (12, oICmp_ne 17), (15, oConst (nI 5)), (16, oRet K 0 0), (17, oILoad 0), (18, oConst (nI 109)), (20, oICmp_eq 29), (23, oILoad 0), (24, oConst (nI 104)), (26, oICmp_ne 34), (29, oConst (nI 6)), (31, oGoto 35), (34, oConst (nI 0)), (35, oRet K 0 0)]
set_option maxRecDepth 100000 in
theorem kX0_stageAfterFirst {X : gX} {l : Launch} (hM : gM X l cX0_stageAfterFirst RX0 wsX0_stageAfterFirst rmX0_stageAfterFirst) {K : gK} (hE : gR X K 0 0 (some .int)) (hnL : X.2.2.2.2.2.2.2.2.2.2.2.2.2.2.2.2 = 1) : okL X (pX0_stageAfterFirst K) := by
  obtain ⟨p, l1, e, R, s, m, args, below, meth, c, D, cA, A, ag, ad0, Q, nL⟩ := X
  cases hnL
  refine ⟨ok_F (ok_iload_n hM 0 dX0_stageAfterFirst_0 rfl),
    ok_callS hM [] (ctX0_isTenantDigit l) rfl gX0_stageAfterFirst_X0_isTenantDigit rfl rfl rfl (by decide +kernel) (by decide) dX0_stageAfterFirst_1,
    ok_F (ok_if_eq hM 9 dX0_stageAfterFirst_4 (by decide)),
    ok_iconst hM dX0_stageAfterFirst_7 rfl,
    ok_ret hM hE dX0_stageAfterFirst_8,
    ok_iload_n hM 0 dX0_stageAfterFirst_9 rfl,
    ok_bipush hM dX0_stageAfterFirst_10 rfl,
    ok_icmp_ne hM 17 dX0_stageAfterFirst_12 (by decide),
    ok_iconst hM dX0_stageAfterFirst_15 rfl,
    ok_ret hM hE dX0_stageAfterFirst_16,
    ok_iload_n hM 0 dX0_stageAfterFirst_17 rfl,
    ok_bipush hM dX0_stageAfterFirst_18 rfl,
    ok_icmp_eq hM 29 dX0_stageAfterFirst_20 (by decide),
    ok_iload_n hM 0 dX0_stageAfterFirst_23 rfl,
    ok_bipush hM dX0_stageAfterFirst_24 rfl,
    ok_icmp_ne hM 34 dX0_stageAfterFirst_26 (by decide),
    ok_bipush hM dX0_stageAfterFirst_29 rfl,
    ok_goto hM 35 dX0_stageAfterFirst_31 (by decide),
    ok_iconst hM dX0_stageAfterFirst_34 rfl,
    ok_ret hM hE dX0_stageAfterFirst_35,
    trivial⟩
set_option maxRecDepth 100000 in
theorem ctX0_stageAfterFirst (l : Launch) : Ct l yX0_stageAfterFirst wsX0_stageAfterFirst rmX0_stageAfterFirst 0 0 false sX0_stageAfterFirst := by
  refine ct_of (own := RX0) (cc := cX0_stageAfterFirst) (maxL := 1) (ret := (some .int)) (by decide) rfl rfl (by rintro _ _ _ ⟨x, c, rfl, rfl, hc, rfl, hK⟩; exact Nat.le_of_ble_eq_true rfl) ?_
  intro X av es K hM hE hag hin hnL hsp
  obtain ⟨x, c, rfl, rfl, hc, rfl, hK⟩ := hsp
  have hf := kX0_stageAfterFirst hM hE hnL
  refine wr_ok hf cut_nil 5 0 _ _ _ _ _ ?_
  refine ⟨_, rfl, rfl, ?_⟩
  rw [ten_eq hc]
  unfold stg1 at hK
  refine ⟨fun h => ?_, fun h => ?_⟩
  · have h1 : ¬ (48 ≤ c ∧ c < 52) := by
      rw [bI_0] at h
      simpa using h
    rw [if_neg h1] at hK
    refine ⟨fun h2 => ?_, fun h2 => ?_⟩
    · have h3 : ¬ c = 102 := fun q => h2 (by rw [q])
      rw [if_neg h3] at hK
      refine ⟨fun h4 => ?_, fun h4 => ?_⟩
      · have h5 : c = 109 := (nI_eq (by omega) (by decide)).mp h4
        rw [if_pos (Or.inl h5)] at hK
        exact hK
      · have h5 : ¬ c = 109 := fun q => h4 (by rw [q])
        refine ⟨fun h6 => ?_, fun h6 => ?_⟩
        · have h7 : ¬ c = 104 := fun q => h6 (by rw [q])
          rw [if_neg (by omega)] at hK
          exact hK
        · have h7 : c = 104 := (nI_eq (by omega) (by decide)).mp h6
          rw [if_pos (Or.inr h7)] at hK
          exact hK
    · have h3 : c = 102 := (nI_eq (by omega) (by decide)).mp h2
      rw [if_pos h3] at hK
      exact hK
  · have h1 : 48 ≤ c ∧ c < 52 := by
      rw [bI_0] at h
      simpa using h
    rw [if_pos h1] at hK
    exact hK
def stgA (st nu c : Nat) : Nat := if st = 1 then stg1 c else if st = 2 then (if c = 58 then 3 else 0) else if st = 3 then (if 48 ≤ c ∧ c ≤ 57 then 4 else 0) else if st = 4 then (if c = 59 then 1 else if (48 ≤ c ∧ c ≤ 57) ∧ ¬ nu = 0 ∧ nu * 10 + (c - 48) < 256 then 4 else 0) else if st = 5 then (if 48 ≤ c ∧ c < 52 then 6 else 0) else if st = 6 then (if c = 59 then 1 else 0) else 0
def sX0_stageAfter : gS := fun av es K => ∃ s u x st nu c, av = [.int s, .int u, .int x] ∧ s = nI st ∧ u = nI nu ∧ x = nI c ∧ 1 ≤ st ∧ st ≤ 6 ∧ nu < 256 ∧ c < 1000 ∧ es = [] ∧ K (some (.int (nI (stgA st nu c)))) []
def rmX0_stageAfter : Room := { frames := 2, cells := 0, slots := 0, locals := 40 }
def pX0_stageAfter (K : gK) : List (Nat × gO) := [(0, oF (oILoad 0)), (1, oTable 1 128 [40, 45, 57, 70, 102, 116]), (40, oILoad 2), (41, oCallS 0 0 1 [] sX0_stageAfterFirst), (44, oF (oRet K 0 0)), (45, oILoad 2), (46, oConst (nI 58)), (48, oICmp_ne 55), (51, oConst (nI 3)), (52, oGoto 56), (55, oConst (nI 0)), (56, oRet K 0 0), (57, oILoad 2), (58, oCallS 0 0 1 [] sX0_isDigit), (61, oF (oIf_eq 68)), (64, oConst (nI 4)), (65, oGoto 69), (68, oConst (nI 0)), (69, oRet K 0 0), (70, oILoad 2), (71, oConst (nI 59)), (73, oICmp_ne 78), (76, oConst (nI 1)), (77, oRet K 0 0), (78, oILoad 2), (79, oCallS 0 0 1 [] sX0_isDigit), (82, oF (oIf_eq 100)), (85, oILoad 1), (86, oILoad 2), (87, oConst (nI 48)), (89, oSub), (90, oCallS 0 0 2 [] sX0_mayGoOn), (93, oF (oIf_eq 100)), (96, oConst (nI 4)), (97, oGoto 101), (100, oConst (nI 0)), (101, oRet K 0 0), (102, oILoad 2), (103, oCallS 0 0 1 [] sX0_isTenantDigit), (106, oF (oIf_eq 114)), (109, oConst (nI 6)), (111, oGoto 115), (114, oConst (nI 0)), (115, oRet K 0 0), (116, oILoad 2), (117, oConst (nI 59)), (119, oICmp_ne 126), (122, oConst (nI 1)), (123, oGoto 127), (126, oConst (nI 0)), (127, oRet K 0 0), (128, oConst (nI 0)), (129, oRet K 0 0)]
set_option maxRecDepth 100000 in
theorem kX0_stageAfter {X : gX} {l : Launch} (hM : gM X l cX0_stageAfter RX0 wsX0_stageAfter rmX0_stageAfter) {K : gK} (hE : gR X K 0 0 (some .int)) (hnL : X.2.2.2.2.2.2.2.2.2.2.2.2.2.2.2.2 = 3) : okL X (pX0_stageAfter K) := by
  obtain ⟨p, l1, e, R, s, m, args, below, meth, c, D, cA, A, ag, ad0, Q, nL⟩ := X
  cases hnL
  refine ⟨ok_F (ok_iload_n hM 0 dX0_stageAfter_0 rfl),
    ok_table hM 1 128 [40, 45, 57, 70, 102, 116] dX0_stageAfter_1 rfl (by decide) (by decide) (by decide),
    ok_iload_n hM 2 dX0_stageAfter_40 rfl,
    ok_callS hM [] (ctX0_stageAfterFirst l) rfl gX0_stageAfter_X0_stageAfterFirst rfl rfl rfl (by decide +kernel) (by decide) dX0_stageAfter_41,
    ok_F (ok_ret hM hE dX0_stageAfter_44),
    ok_iload_n hM 2 dX0_stageAfter_45 rfl,
    ok_bipush hM dX0_stageAfter_46 rfl,
    ok_icmp_ne hM 55 dX0_stageAfter_48 (by decide),
    ok_iconst hM dX0_stageAfter_51 rfl,
    ok_goto hM 56 dX0_stageAfter_52 (by decide),
    ok_iconst hM dX0_stageAfter_55 rfl,
    ok_ret hM hE dX0_stageAfter_56,
    ok_iload_n hM 2 dX0_stageAfter_57 rfl,
    ok_callS hM [] (ctX0_isDigit l) rfl gX0_stageAfter_X0_isDigit rfl rfl rfl (by decide +kernel) (by decide) dX0_stageAfter_58,
    ok_F (ok_if_eq hM 68 dX0_stageAfter_61 (by decide)),
    ok_iconst hM dX0_stageAfter_64 rfl,
    ok_goto hM 69 dX0_stageAfter_65 (by decide),
    ok_iconst hM dX0_stageAfter_68 rfl,
    ok_ret hM hE dX0_stageAfter_69,
    ok_iload_n hM 2 dX0_stageAfter_70 rfl,
    ok_bipush hM dX0_stageAfter_71 rfl,
    ok_icmp_ne hM 78 dX0_stageAfter_73 (by decide),
    ok_iconst hM dX0_stageAfter_76 rfl,
    ok_ret hM hE dX0_stageAfter_77,
    ok_iload_n hM 2 dX0_stageAfter_78 rfl,
    ok_callS hM [] (ctX0_isDigit l) rfl gX0_stageAfter_X0_isDigit rfl rfl rfl (by decide +kernel) (by decide) dX0_stageAfter_79,
    ok_F (ok_if_eq hM 100 dX0_stageAfter_82 (by decide)),
    ok_iload_n hM 1 dX0_stageAfter_85 rfl,
    ok_iload_n hM 2 dX0_stageAfter_86 rfl,
    ok_bipush hM dX0_stageAfter_87 rfl,
    ok_isub hM dX0_stageAfter_89,
    ok_callS hM [] (ctX0_mayGoOn l) rfl gX0_stageAfter_X0_mayGoOn rfl rfl rfl (by decide +kernel) (by decide) dX0_stageAfter_90,
    ok_F (ok_if_eq hM 100 dX0_stageAfter_93 (by decide)),
    ok_iconst hM dX0_stageAfter_96 rfl,
    ok_goto hM 101 dX0_stageAfter_97 (by decide),
    ok_iconst hM dX0_stageAfter_100 rfl,
    ok_ret hM hE dX0_stageAfter_101,
    ok_iload_n hM 2 dX0_stageAfter_102 rfl,
    ok_callS hM [] (ctX0_isTenantDigit l) rfl gX0_stageAfter_X0_isTenantDigit rfl rfl rfl (by decide +kernel) (by decide) dX0_stageAfter_103,
    ok_F (ok_if_eq hM 114 dX0_stageAfter_106 (by decide)),
    ok_bipush hM dX0_stageAfter_109 rfl,
    ok_goto hM 115 dX0_stageAfter_111 (by decide),
    ok_iconst hM dX0_stageAfter_114 rfl,
    ok_ret hM hE dX0_stageAfter_115,
    ok_iload_n hM 2 dX0_stageAfter_116 rfl,
    ok_bipush hM dX0_stageAfter_117 rfl,
    ok_icmp_ne hM 126 dX0_stageAfter_119 (by decide),
    ok_iconst hM dX0_stageAfter_122 rfl,
    ok_goto hM 127 dX0_stageAfter_123 (by decide),
    ok_iconst hM dX0_stageAfter_126 rfl,
    ok_ret hM hE dX0_stageAfter_127,
    ok_iconst hM dX0_stageAfter_128 rfl,
    ok_ret hM hE dX0_stageAfter_129,
    trivial⟩
set_option maxRecDepth 100000 in
theorem ctX0_stageAfter (l : Launch) : Ct l yX0_stageAfter wsX0_stageAfter rmX0_stageAfter 0 0 false sX0_stageAfter := by
  refine ct_of (own := RX0) (cc := cX0_stageAfter) (maxL := 3) (ret := (some .int)) (by decide) rfl rfl (by rintro _ _ _ ⟨s, u, x, st, nu, c, rfl, rfl, rfl, rfl, hs1, hs6, hnu, hc, rfl, hK⟩; exact Nat.le_of_ble_eq_true rfl) ?_
  intro X av es K hM hE hag hin hnL hsp
  obtain ⟨s, u, x, st, nu, c, rfl, rfl, rfl, rfl, hs1, hs6, hnu, hc, rfl, hK⟩ := hsp
  have hf := kX0_stageAfter hM hE hnL
  refine wr_ok hf cut_nil 5 0 _ _ _ _ _ ?_
  refine ⟨st, rfl, by omega, ?_⟩
  have hst : st = 1 ∨ st = 2 ∨ st = 3 ∨ st = 4 ∨ st = 5 ∨ st = 6 := by omega
  rcases hst with rfl | rfl | rfl | rfl | rfl | rfl
  · exact ⟨_, c, rfl, rfl, hc, rfl, hK⟩
  · refine ⟨fun h => ?_, fun h => ?_⟩
    · have h1 : ¬ c = 58 := fun q => h (by rw [q])
      have e : stgA 2 nu c = 0 := by simp [stgA, h1]
      rw [e] at hK
      exact hK
    · have h1 : c = 58 := (nI_eq (by omega) (by decide)).mp h
      have e : stgA 2 nu c = 3 := by simp [stgA, h1]
      rw [e] at hK
      exact hK
  · refine ⟨_, rfl, rfl, ?_⟩
    rw [dig_eq hc]
    refine ⟨fun h => ?_, fun h => ?_⟩
    · rw [bI_0] at h
      have h1 : ¬ (48 ≤ c ∧ c ≤ 57) := by simpa using h
      have e : stgA 3 nu c = 0 := by simp only [stgA, h1]; simp
      rw [e] at hK
      exact hK
    · rw [bI_0] at h
      have h1 : 48 ≤ c ∧ c ≤ 57 := by simpa using h
      have e : stgA 3 nu c = 4 := by simp only [stgA, h1]; simp
      rw [e] at hK
      exact hK
  · refine ⟨fun h => ?_, fun h => ?_⟩
    · have h0 : ¬ c = 59 := fun q => h (by rw [q])
      refine ⟨_, rfl, rfl, ?_⟩
      rw [dig_eq hc]
      refine ⟨fun h => ?_, fun h => ?_⟩
      · rw [bI_0] at h
        have h1 : ¬ (48 ≤ c ∧ c ≤ 57) := by simpa using h
        have e : stgA 4 nu c = 0 := by simp only [stgA, h1]; simp [h0]
        rw [e] at hK
        exact hK
      · rw [bI_0] at h
        have h1 : 48 ≤ c ∧ c ≤ 57 := by simpa using h
        refine ⟨_, _, rfl, rfl, ?_⟩
        have e1 : nI nu * nI 10 + (nI c - nI 48) = nI (nu * 10 + (c - 48)) := by rw [pk_mul, pk_sub h1.1, nI_add]
        have e2 : (nI nu = 0) ↔ nu = 0 := nI_eq (by omega) (by decide)
        have e3 : nI (nu * 10 + (c - 48)) < nI 256 ↔ nu * 10 + (c - 48) < 256 := nI_ltI (by omega) (by decide)
        rw [e1]
        refine ⟨fun h => ?_, fun h => ?_⟩
        · rw [bI_0] at h
          have h2 : ¬ (¬ nu = 0 ∧ nu * 10 + (c - 48) < 256) := by
            simp only [e2, e3] at h
            simpa using h
          have e : stgA 4 nu c = 0 := by simp only [stgA, h1, h2]; simp [h0]
          rw [e] at hK
          exact hK
        · rw [bI_0] at h
          have h2 : ¬ nu = 0 ∧ nu * 10 + (c - 48) < 256 := by
            simp only [e2, e3] at h
            simpa using h
          have e : stgA 4 nu c = 4 := by simp only [stgA, h1, h2]; simp [h0]
          rw [e] at hK
          exact hK
    · have h1 : c = 59 := (nI_eq (by omega) (by decide)).mp h
      have e : stgA 4 nu c = 1 := by simp [stgA, h1]
      rw [e] at hK
      exact hK
  · refine ⟨_, rfl, rfl, ?_⟩
    rw [ten_eq hc]
    refine ⟨fun h => ?_, fun h => ?_⟩
    · rw [bI_0] at h
      have h1 : ¬ (48 ≤ c ∧ c < 52) := by simpa using h
      have e : stgA 5 nu c = 0 := by simp only [stgA, h1]; simp
      rw [e] at hK
      exact hK
    · rw [bI_0] at h
      have h1 : 48 ≤ c ∧ c < 52 := by simpa using h
      have e : stgA 5 nu c = 6 := by simp only [stgA, h1]; simp
      rw [e] at hK
      exact hK
  · refine ⟨fun h => ?_, fun h => ?_⟩
    · have h1 : ¬ c = 59 := fun q => h (by rw [q])
      have e : stgA 6 nu c = 0 := by simp [stgA, h1]
      rw [e] at hK
      exact hK
    · have h1 : c = 59 := (nI_eq (by omega) (by decide)).mp h
      have e : stgA 6 nu c = 1 := by simp [stgA, h1]
      rw [e] at hK
      exact hK
def numN (ch : Nat → Nat) : Nat → Nat → Nat → Nat
  | 0, _, acc => acc
  | f + 1, i, acc => if 48 ≤ ch i ∧ ch i ≤ 57 then numN ch f (i + 1) (acc * 10 + ch i - 48) else acc
def sX0_numberAt : gS := fun av es K => ∃ x i0 n ch, av = [.ref 0, .int x] ∧ x = nI i0 ∧ i0 < 900 ∧ n ≤ 80 ∧ (∀ j, j < n → ch j < 1000) ∧ es = tx0 (nF ch) (nI n) ∧ K (some (.int (nI (numN ch (n - i0) i0 0)))) es
def rmX0_numberAt : Room := { frames := 1, cells := 0, slots := 0, locals := 21 }
def pX0_numberAt (K : gK) : List (Nat × gO) := [(0, oConst (nI 0)), (1, oF (oIStore 4 2)), (2, oF (oILoad 1)), (3, oIStore 4 3), (4, oF (oILoad 3)), (5, oALoad 0), (6, oGet 0 1), (9, oICmp_ge 43), (12, oALoad 0), (13, oILoad 3), (14, oCallV 0 0 0 1 [0,1] sX0_signAt), (17, oF (oCallS 0 0 1 [] sX0_isDigit)), (20, oF (oIf_eq 43)), (23, oILoad 2), (24, oConst (nI 10)), (26, oMul), (27, oALoad 0), (28, oILoad 3), (29, oCallV 0 0 0 1 [0,1] sX0_signAt), (32, oAdd), (33, oConst (nI 48)), (35, oSub), (36, oF (oIStore 4 2)), (37, oF (oIInc 4 3 (nI 1))), (40, oGoto 4), (43, oF (oILoad 2)), (44, oRet K 0 0)]
set_option maxRecDepth 100000 in
theorem kX0_numberAt {X : gX} {l : Launch} (hM : gM X l cX0_numberAt RX0 wsX0_numberAt rmX0_numberAt) {K : gK} (hE : gR X K 0 0 (some .int)) (hnL : X.2.2.2.2.2.2.2.2.2.2.2.2.2.2.2.2 = 4) : okL X (pX0_numberAt K) := by
  obtain ⟨p, l1, e, R, s, m, args, below, meth, c, D, cA, A, ag, ad0, Q, nL⟩ := X
  cases hnL
  refine ⟨ok_iconst hM dX0_numberAt_0 rfl,
    ok_F (ok_istore_n hM 2 dX0_numberAt_1 rfl),
    ok_F (ok_iload_n hM 1 dX0_numberAt_2 rfl),
    ok_istore_n hM 3 dX0_numberAt_3 rfl,
    ok_F (ok_iload_n hM 3 dX0_numberAt_4 rfl),
    ok_aload_n hM 0 dX0_numberAt_5 rfl,
    ok_get (C := RX0) (T := TX0) (Nf := 2) hM (fun _ h => List.mem_cons_of_mem _ (List.mem_append_right _ h)) rfl 1 (by decide) (List.mem_of_getElem? (i := 1) rfl) rfl dX0_numberAt_6,
    ok_icmp_ge hM 43 dX0_numberAt_9 (by decide),
    ok_aload_n hM 0 dX0_numberAt_12 rfl,
    ok_iload_n hM 3 dX0_numberAt_13 rfl,
    ok_callV hM [0,1] (ctX0_signAt l) rfl rfl gX0_numberAt_X0_signAt rfl rfl rfl (by decide +kernel) (by decide) dX0_numberAt_14,
    ok_F (ok_callS hM [] (ctX0_isDigit l) rfl gX0_numberAt_X0_isDigit rfl rfl rfl (by decide +kernel) (by decide) dX0_numberAt_17),
    ok_F (ok_if_eq hM 43 dX0_numberAt_20 (by decide)),
    ok_iload_n hM 2 dX0_numberAt_23 rfl,
    ok_bipush hM dX0_numberAt_24 rfl,
    ok_imul hM dX0_numberAt_26,
    ok_aload_n hM 0 dX0_numberAt_27 rfl,
    ok_iload_n hM 3 dX0_numberAt_28 rfl,
    ok_callV hM [0,1] (ctX0_signAt l) rfl rfl gX0_numberAt_X0_signAt rfl rfl rfl (by decide +kernel) (by decide) dX0_numberAt_29,
    ok_iadd hM dX0_numberAt_32,
    ok_bipush hM dX0_numberAt_33 rfl,
    ok_isub hM dX0_numberAt_35,
    ok_F (ok_istore_n hM 2 dX0_numberAt_36 rfl),
    ok_F (ok_iinc hM 3 dX0_numberAt_37 rfl),
    ok_goto hM 4 dX0_numberAt_40 (by decide),
    ok_F (ok_iload_n hM 2 dX0_numberAt_43 rfl),
    ok_ret hM hE dX0_numberAt_44,
    trivial⟩
set_option maxRecDepth 100000 in
theorem ctX0_numberAt (l : Launch) : Ct l yX0_numberAt wsX0_numberAt rmX0_numberAt 0 0 false sX0_numberAt := by
  refine ct_of (own := RX0) (cc := cX0_numberAt) (maxL := 4) (ret := (some .int)) (by decide) rfl rfl (by rintro _ _ _ ⟨x, i0, n, ch, rfl, rfl, hi0, hn, hch, rfl, hK⟩; exact Nat.le_of_ble_eq_true rfl) ?_
  intro X av es K hM hE hag hin hnL hsp
  obtain ⟨x, i0, n, ch, rfl, rfl, hi0, hn, hch, rfl, hK⟩ := hsp
  have hf := kX0_numberAt hM hE hnL
  generalize hres : numN ch (n - i0) i0 0 = res at hK
  refine g_with (X := X) 4 [0, 1, 2, 3] (fun μ vs es k m => ∃ (i acc : Nat), μ = n - i ∧ i < 990 ∧ (i ≤ i0 ∨ i ≤ n) ∧ res = numN ch (n - i) i acc ∧ vs = [.ref 0, .int (nI i0), .int (nI acc), .int (nI i)] ∧ es = tx0 (nF ch) (nI n) ∧ k = 0 ∧ m = 0) cut_nil (fun μ hc vs es k m hI => ?_) (fun hc => ?_)
  · obtain ⟨i, acc, rfl, hi, hii, hr, rfl, rfl, rfl, rfl⟩ := hI
    refine g_go hf hc 5 ?_
    refine ⟨fun h => ?_, fun h => ?_⟩
    · rw [nI_leI (by omega) (by omega)] at h
      have h0 : n - i = 0 := by omega
      rw [h0] at hr
      have e : res = acc := hr
      rw [e] at hK
      exact hK
    · rw [nI_leI (by omega) (by omega)] at h
      obtain ⟨d, hd⟩ : ∃ d, n - i = d + 1 := ⟨n - i - 1, by omega⟩
      have hd9 : n - (i + 1) = d := by omega
      have hci := hch i (by omega)
      rw [hd] at hr
      simp only [numN] at hr
      refine ⟨_, i, n, ch, rfl, rfl, by omega, hn, rfl, ?_⟩
      have es1 : sgn ch n i = nI (ch i) := if_pos (by omega)
      rw [es1]
      refine ⟨_, rfl, rfl, ?_⟩
      rw [dig_eq hci]
      refine ⟨fun h2 => ?_, fun h2 => ?_⟩
      · rw [bI_0] at h2
        have h3 : ¬ (48 ≤ ch i ∧ ch i ≤ 57) := by simpa using h2
        rw [if_neg h3] at hr
        rw [hr] at hK
        exact hK
      · rw [bI_0] at h2
        have h3 : 48 ≤ ch i ∧ ch i ≤ 57 := by simpa using h2
        rw [if_pos h3] at hr
        refine ⟨_, i, n, ch, rfl, rfl, by omega, hn, rfl, ?_⟩
        rw [es1]
        have e9 : nI acc * nI 10 + nI (ch i) - nI 48 = nI (acc * 10 + ch i - 48) := by rw [pk_mul, nI_add, pk_sub (by omega)]
        exact ⟨n - (i + 1), by omega, i + 1, acc * 10 + ch i - 48, rfl, by omega, by omega, by rw [hr, hd9], by rw [← e9, ← nI_add], rfl, rfl, rfl⟩
  · refine wr_ok hf hc 5 0 _ _ _ _ _ ?_
    exact ⟨n - i0, i0, 0, rfl, by omega, Or.inl (Nat.le_refl _), hres.symm, rfl, rfl, rfl, rfl⟩
def feR (ch : Nat → Nat) (n : Nat) : Nat → Nat → Nat → Nat → Option Nat
  | 0, _, st, _ => if st = 4 ∨ st = 6 then none else some n
  | f + 1, i, st, nu => if stgA st nu (ch i) = 0 then some i else feR ch n f (i + 1) (stgA st nu (ch i)) (if stgA st nu (ch i) = 4 then (if st = 4 then nu * 10 else 0) + ch i - 48 else nu)
def fErr (ch : Nat → Nat) (n : Nat) : Option Nat := feR ch n n 0 1 0
theorem stg1_le (c : Nat) : stg1 c ≤ 6 ∧ stg1 c ≠ 4 := by
  unfold stg1
  split
  · omega
  · split
    · omega
    · split <;> omega
theorem stgA_le (st nu c : Nat) : stgA st nu c ≤ 6 := by
  have h := (stg1_le c).1
  unfold stgA
  repeat' split
  all_goals omega
theorem stgA_4 {st nu c : Nat} (h : stgA st nu c = 4) : (48 ≤ c ∧ c ≤ 57) ∧ (st = 3 ∨ (st = 4 ∧ nu * 10 + (c - 48) < 256)) := by
  have h1 := (stg1_le c).2
  unfold stgA at h
  repeat' split at h
  all_goals first | omega | (rename_i hx; exact absurd h h1) | exact absurd h h1
def sX0_firstError : gS := fun av es K => ∃ n ch, av = [.ref 0] ∧ n ≤ 80 ∧ (∀ j, j < n → ch j < 1000) ∧ es = tx0 (nF ch) (nI n) ∧ K (some (.int (oI (fErr ch n)))) es
def rmX0_firstError : Room := { frames := 3, cells := 0, slots := 0, locals := 62 }
def pX0_firstError (K : gK) : List (Nat × gO) := [(0, oConst (nI 1)), (1, oF (oIStore 6 1)), (2, oConst (nI 0)), (3, oF (oIStore 6 2)), (4, oConst (nI 0)), (5, oF (oIStore 6 3)), (6, oF (oILoad 3)), (7, oALoad 0), (8, oGet 0 1), (11, oICmp_ge 71), (14, oALoad 0), (15, oILoad 3), (16, oCallV 0 0 0 1 [0,1] sX0_signAt), (19, oF (oIStore 6 4)), (21, oF (oILoad 1)), (22, oIStore 6 5), (24, oF (oILoad 5)), (26, oILoad 2), (27, oILoad 4), (29, oCallS 0 0 3 [] sX0_stageAfter), (32, oF (oIStore 6 1)), (33, oF (oILoad 1)), (34, oIf_ne 39), (37, oILoad 3), (38, oRet K 0 0), (39, oILoad 1), (40, oConst (nI 4)), (41, oICmp_ne 65), (44, oILoad 5), (46, oConst (nI 4)), (47, oICmp_ne 57), (50, oILoad 2), (51, oConst (nI 10)), (53, oMul), (54, oGoto 58), (57, oConst (nI 0)), (58, oILoad 4), (60, oAdd), (61, oConst (nI 48)), (63, oSub), (64, oIStore 6 2), (65, oF (oIInc 6 3 (nI 1))), (68, oGoto 6), (71, oF (oILoad 1)), (72, oConst (nI 4)), (73, oICmp_eq 82), (76, oILoad 1), (77, oConst (nI 6)), (79, oICmp_ne 86), (82, oConst (-1)), (83, oGoto 90), (86, oALoad 0), (87, oGet 0 1), (90, oRet K 0 0)]
set_option maxRecDepth 100000 in
theorem kX0_firstError {X : gX} {l : Launch} (hM : gM X l cX0_firstError RX0 wsX0_firstError rmX0_firstError) {K : gK} (hE : gR X K 0 0 (some .int)) (hnL : X.2.2.2.2.2.2.2.2.2.2.2.2.2.2.2.2 = 6) : okL X (pX0_firstError K) := by
  obtain ⟨p, l1, e, R, s, m, args, below, meth, c, D, cA, A, ag, ad0, Q, nL⟩ := X
  cases hnL
  refine ⟨ok_iconst hM dX0_firstError_0 rfl,
    ok_F (ok_istore_n hM 1 dX0_firstError_1 rfl),
    ok_iconst hM dX0_firstError_2 rfl,
    ok_F (ok_istore_n hM 2 dX0_firstError_3 rfl),
    ok_iconst hM dX0_firstError_4 rfl,
    ok_F (ok_istore_n hM 3 dX0_firstError_5 rfl),
    ok_F (ok_iload_n hM 3 dX0_firstError_6 rfl),
    ok_aload_n hM 0 dX0_firstError_7 rfl,
    ok_get (C := RX0) (T := TX0) (Nf := 2) hM (fun _ h => List.mem_cons_of_mem _ (List.mem_append_right _ h)) rfl 1 (by decide) (List.mem_of_getElem? (i := 1) rfl) rfl dX0_firstError_8,
    ok_icmp_ge hM 71 dX0_firstError_11 (by decide),
    ok_aload_n hM 0 dX0_firstError_14 rfl,
    ok_iload_n hM 3 dX0_firstError_15 rfl,
    ok_callV hM [0,1] (ctX0_signAt l) rfl rfl gX0_firstError_X0_signAt rfl rfl rfl (by decide +kernel) (by decide) dX0_firstError_16,
    ok_F (ok_istore hM 4 dX0_firstError_19),
    ok_F (ok_iload_n hM 1 dX0_firstError_21 rfl),
    ok_istore hM 5 dX0_firstError_22,
    ok_F (ok_iload hM 5 dX0_firstError_24),
    ok_iload_n hM 2 dX0_firstError_26 rfl,
    ok_iload hM 4 dX0_firstError_27,
    ok_callS hM [] (ctX0_stageAfter l) rfl gX0_firstError_X0_stageAfter rfl rfl rfl (by decide +kernel) (by decide) dX0_firstError_29,
    ok_F (ok_istore_n hM 1 dX0_firstError_32 rfl),
    ok_F (ok_iload_n hM 1 dX0_firstError_33 rfl),
    ok_if_ne hM 39 dX0_firstError_34 (by decide),
    ok_iload_n hM 3 dX0_firstError_37 rfl,
    ok_ret hM hE dX0_firstError_38,
    ok_iload_n hM 1 dX0_firstError_39 rfl,
    ok_iconst hM dX0_firstError_40 rfl,
    ok_icmp_ne hM 65 dX0_firstError_41 (by decide),
    ok_iload hM 5 dX0_firstError_44,
    ok_iconst hM dX0_firstError_46 rfl,
    ok_icmp_ne hM 57 dX0_firstError_47 (by decide),
    ok_iload_n hM 2 dX0_firstError_50 rfl,
    ok_bipush hM dX0_firstError_51 rfl,
    ok_imul hM dX0_firstError_53,
    ok_goto hM 58 dX0_firstError_54 (by decide),
    ok_iconst hM dX0_firstError_57 rfl,
    ok_iload hM 4 dX0_firstError_58,
    ok_iadd hM dX0_firstError_60,
    ok_bipush hM dX0_firstError_61 rfl,
    ok_isub hM dX0_firstError_63,
    ok_istore_n hM 2 dX0_firstError_64 rfl,
    ok_F (ok_iinc hM 3 dX0_firstError_65 rfl),
    ok_goto hM 6 dX0_firstError_68 (by decide),
    ok_F (ok_iload_n hM 1 dX0_firstError_71 rfl),
    ok_iconst hM dX0_firstError_72 rfl,
    ok_icmp_eq hM 82 dX0_firstError_73 (by decide),
    ok_iload_n hM 1 dX0_firstError_76 rfl,
    ok_bipush hM dX0_firstError_77 rfl,
    ok_icmp_ne hM 86 dX0_firstError_79 (by decide),
    ok_iconst hM dX0_firstError_82 rfl,
    ok_goto hM 90 dX0_firstError_83 (by decide),
    ok_aload_n hM 0 dX0_firstError_86 rfl,
    ok_get (C := RX0) (T := TX0) (Nf := 2) hM (fun _ h => List.mem_cons_of_mem _ (List.mem_append_right _ h)) rfl 1 (by decide) (List.mem_of_getElem? (i := 1) rfl) rfl dX0_firstError_87,
    ok_ret hM hE dX0_firstError_90,
    trivial⟩
set_option maxRecDepth 100000 in
theorem ctX0_firstError (l : Launch) : Ct l yX0_firstError wsX0_firstError rmX0_firstError 0 0 false sX0_firstError := by
  refine ct_of (own := RX0) (cc := cX0_firstError) (maxL := 6) (ret := (some .int)) (by decide) rfl rfl (by rintro _ _ _ ⟨n, ch, rfl, hn, hch, rfl, hK⟩; exact Nat.le_of_ble_eq_true rfl) ?_
  intro X av es K hM hE hag hin hnL hsp
  obtain ⟨n, ch, rfl, hn, hch, rfl, hK⟩ := hsp
  have hf := kX0_firstError hM hE hnL
  generalize hres : fErr ch n = res at hK
  refine g_with (X := X) 6 [0, 1, 2, 3] (fun μ vs es k m => ∃ (i st nu : Nat), μ = n - i ∧ i ≤ n ∧ 1 ≤ st ∧ st ≤ 6 ∧ nu < 256 ∧ res = feR ch n (n - i) i st nu ∧ vs = [.ref 0, .int (nI st), .int (nI nu), .int (nI i)] ∧ es = tx0 (nF ch) (nI n) ∧ k = 0 ∧ m = 0) cut_nil (fun μ hc vs es k m hI => ?_) (fun hc => ?_)
  · obtain ⟨i, st, nu, rfl, hi, hs1, hs6, hnu, hr, rfl, rfl, rfl, rfl⟩ := hI
    refine g_go hf hc 5 ?_
    refine ⟨fun h => ?_, fun h => ?_⟩
    · rw [nI_leI (by omega) (by omega)] at h
      have h0 : n - i = 0 := by omega
      rw [h0] at hr
      simp only [feR] at hr
      refine ⟨fun h2 => ?_, fun h2 => ?_⟩
      · have h3 : st = 4 := (nI_eq (by omega) (by decide)).mp h2
        rw [if_pos (Or.inl h3)] at hr
        rw [hr] at hK
        exact hK
      · have h3 : ¬ st = 4 := fun q => h2 (by rw [q])
        refine ⟨fun h4 => ?_, fun h4 => ?_⟩
        · have h5 : ¬ st = 6 := fun q => h4 (by rw [q])
          rw [if_neg (by omega)] at hr
          rw [hr] at hK
          exact hK
        · have h5 : st = 6 := (nI_eq (by omega) (by decide)).mp h4
          rw [if_pos (Or.inr h5)] at hr
          rw [hr] at hK
          exact hK
    · rw [nI_leI (by omega) (by omega)] at h
      obtain ⟨d, hd⟩ : ∃ d, n - i = d + 1 := ⟨n - i - 1, by omega⟩
      have hd9 : n - (i + 1) = d := by omega
      have hci := hch i (by omega)
      rw [hd] at hr
      simp only [feR] at hr
      have es1 : sgn ch n i = nI (ch i) := if_pos (by omega)
      refine ⟨_, i, n, ch, rfl, rfl, by omega, hn, rfl, ?_⟩
      rw [es1]
      refine ⟨_, _, _, st, nu, ch i, rfl, rfl, rfl, rfl, hs1, hs6, hnu, hci, rfl, ?_⟩
      have hle := stgA_le st nu (ch i)
      have h4' := @stgA_4 st nu (ch i)
      generalize stgA st nu (ch i) = s2 at hr hle h4'
      refine ⟨fun h2 => ?_, fun h2 => ?_⟩
      · have h3 : ¬ s2 = 0 := fun q => h2 (by rw [q]; rfl)
        rw [if_neg h3] at hr
        refine ⟨fun h5 => ?_, fun h5 => ?_⟩
        · have h6 : ¬ s2 = 4 := fun q => h5 (by rw [q])
          rw [if_neg h6] at hr
          exact ⟨n - (i + 1), by omega, i + 1, s2, nu, rfl, by omega, by omega, hle, hnu, by rw [hr, hd9], by rw [nI_add], rfl, rfl, rfl⟩
        · have h6 : s2 = 4 := (nI_eq (by omega) (by decide)).mp h5
          rw [if_pos h6] at hr
          obtain ⟨h7, h8⟩ := h4' h6
          refine ⟨fun h9 => ?_, fun h9 => ?_⟩
          · have h10 : ¬ st = 4 := fun q => h9 (by rw [q])
            rw [if_neg h10] at hr
            have e9 : nI 0 + nI (ch i) - nI 48 = nI (0 + ch i - 48) := by rw [nI_add, pk_sub (by omega)]
            exact ⟨n - (i + 1), by omega, i + 1, s2, 0 + ch i - 48, rfl, by omega, by omega, hle, by omega, by rw [hr, hd9], by rw [← e9, ← nI_add], rfl, rfl, rfl⟩
          · have h10 : st = 4 := (nI_eq (by omega) (by decide)).mp h9
            rw [if_pos h10] at hr
            have e9 : nI nu * nI 10 + nI (ch i) - nI 48 = nI (nu * 10 + ch i - 48) := by rw [pk_mul, nI_add, pk_sub (by omega)]
            exact ⟨n - (i + 1), by omega, i + 1, s2, nu * 10 + ch i - 48, rfl, by omega, by omega, hle, by omega, by rw [hr, hd9], by rw [← e9, ← nI_add], rfl, rfl, rfl⟩
      · have h3 : s2 = 0 := (nI_eq (by omega) (by decide)).mp h2
        rw [if_pos h3] at hr
        rw [hr] at hK
        exact hK
  · refine wr_ok hf hc 5 0 _ _ _ _ _ ?_
    exact ⟨n, 0, 1, 0, rfl, by omega, by omega, by omega, by omega, hres.symm, rfl, rfl, rfl, rfl⟩
end MC

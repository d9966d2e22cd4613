/-! The quotient of two ints is a number; hitRate. -/
section MQ9
def okD : FP.Core.Datum → Prop
  | .nan => False
  | .inf _ => True
  | .fin _ c q => c < 9007199254740992 ∧ -1074 ≤ q ∧ q ≤ 971
theorem fp_tails : FP.Core.b64.tails = 4503599627370496 := by decide +kernel
theorem fp_exps : FP.Core.b64.exps = 2048 := by decide +kernel
theorem fp_qmin : FP.Core.b64.qmin = -1074 := by decide +kernel
theorem fp_qmax : FP.Core.b64.qmax = 971 := by decide +kernel
theorem fp_p : 2 ^ FP.Core.b64.p = 9007199254740992 := by decide +kernel
theorem fp_encF (s : Bool) (c : Nat) (q : Int) : FP.Core.encode FP.Core.b64 (.fin s c q) = if c < 4503599627370496 then (s.toNat * 2048 + 0) * 4503599627370496 + c else (s.toNat * 2048 + ((q - -1074).toNat + 1)) * 4503599627370496 + (c - 4503599627370496) := by
  show (if c < FP.Core.b64.tails then FP.Core.assemble FP.Core.b64 s 0 c else FP.Core.assemble FP.Core.b64 s ((q - FP.Core.b64.qmin).toNat + 1) (c - FP.Core.b64.tails)) = _
  unfold FP.Core.assemble
  rw [fp_tails, fp_exps, fp_qmin]
theorem fp_encode {d : FP.Core.Datum} (h : okD d) : FP.Core.encode FP.Core.b64 d < 18446744073709551616 ∧ FP.Core.encode FP.Core.b64 d % 9223372036854775808 ≤ 9218868437227405312 := by
  cases d with
  | nan => exact h.elim
  | inf s =>
    show FP.Core.assemble FP.Core.b64 s (FP.Core.b64.exps - 1) 0 < _ ∧ FP.Core.assemble FP.Core.b64 s (FP.Core.b64.exps - 1) 0 % _ ≤ _
    unfold FP.Core.assemble
    rw [fp_tails, fp_exps]
    cases s <;> decide
  | fin s c q =>
    obtain ⟨h1, h2, h3⟩ := h
    rw [fp_encF]
    have h4 : (q - -1074).toNat ≤ 2045 := by omega
    generalize (q - -1074).toNat = E at h4
    have h5 : s.toNat = 0 ∨ s.toNat = 1 := by cases s <;> simp
    generalize s.toNat = b at h5
    split
    · rcases h5 with rfl | rfl <;> omega
    · rcases h5 with rfl | rfl <;> omega
theorem fp_num {d : FP.Core.Datum} (h : okD d) : vf_n64 (UInt64.ofNat (FP.Core.encode FP.Core.b64 d)) := by
  obtain ⟨h1, h2⟩ := fp_encode h
  unfold vf_n64
  rw [UInt64.le_iff_toNat_le, UInt64.toNat_and, UInt64.toNat_ofNat']
  have e1 : FP.Core.encode FP.Core.b64 d % 2 ^ 64 = FP.Core.encode FP.Core.b64 d := Nat.mod_eq_of_lt h1
  rw [e1]
  have e2 : (0x7fffffffffffffff : UInt64).toNat = 2 ^ 63 - 1 := by decide
  rw [e2, Nat.and_two_pow_sub_one_eq_mod]
  exact h2
theorem fp_ratio (s : Bool) (num den : Nat) (e : Int) : okD (FP.Core.roundRatio FP.Core.b64 s num den e) := by
  unfold FP.Core.roundRatio
  split
  · rw [fp_qmin]
    exact ⟨by omega, by omega, by omega⟩
  · unfold FP.Core.roundAt FP.Core.settle FP.Core.bound
    rw [fp_p, fp_qmax, fp_tails]
    have h1 : -1074 ≤ FP.Core.quantum FP.Core.b64 num den e := by
      unfold FP.Core.quantum
      rw [fp_qmin]
      omega
    split
    · split
      · rename_i h2 h3
        exact ⟨h2, h1, h3⟩
      · trivial
    · split
      · rename_i h2 h3
        exact ⟨by omega, by omega, h3⟩
      · trivial
theorem fp_int (s : Bool) {c : Nat} (hc : c < 4294967296) : ∃ c' q', FP.Core.roundRatio FP.Core.b64 s c 1 0 = .fin s c' q' ∧ c' < 9007199254740992 ∧ -1074 ≤ q' ∧ q' ≤ 971 ∧ (c ≠ 0 → c' ≠ 0) := by
  unfold FP.Core.roundRatio
  split
  · rename_i h0
    rw [fp_qmin]
    exact ⟨0, -1074, rfl, by omega, by omega, by omega, fun h => absurd h0 h⟩
  · rename_i h0
    have hl : c.log2 ≤ 31 := by
      have := (Nat.log2_lt h0 (k := 32)).mpr (by omega)
      omega
    have hq1 : FP.Core.quantum FP.Core.b64 c 1 0 ≤ -21 := by
      unfold FP.Core.quantum FP.Core.leading
      rw [fp_qmin]
      have e1 : Nat.log2 1 = 0 := by decide
      have e2 : (FP.Core.b64.p : Int) = 53 := by decide +kernel
      rw [e1, e2]
      dsimp only
      split <;> omega
    have hq0 : -1074 ≤ FP.Core.quantum FP.Core.b64 c 1 0 := by
      unfold FP.Core.quantum
      rw [fp_qmin]
      omega
    generalize FP.Core.quantum FP.Core.b64 c 1 0 = q at hq1 hq0
    have e3 : FP.Core.unitsDen 1 0 q = 1 := by
      unfold FP.Core.unitsDen
      have : (q - 0).toNat = 0 := by omega
      rw [this]
    have e4 : 1 ≤ FP.Core.unitsNum c 0 q := by
      unfold FP.Core.unitsNum
      exact Nat.mul_pos (by omega) (Nat.pow_pos (by decide))
    unfold FP.Core.roundAt
    rw [e3]
    generalize FP.Core.unitsNum c 0 q = m at e4
    have e5 : FP.Core.nearest m 1 = m := by
      unfold FP.Core.nearest
      rw [Nat.mod_one, if_pos (by decide), Nat.div_one]
    rw [e5]
    unfold FP.Core.settle FP.Core.bound
    rw [fp_p, fp_qmax, fp_tails]
    split
    · rename_i h5
      rw [if_pos (by omega)]
      exact ⟨m, q, rfl, h5, hq0, by omega, fun _ => by omega⟩
    · rw [if_pos (by omega)]
      exact ⟨_, _, rfl, by omega, by omega, by omega, fun _ => by decide⟩
theorem fp_decode {s : Bool} {c : Nat} {q : Int} (h1 : c < 9007199254740992) (h2 : -1074 ≤ q) (h3 : q ≤ 971) : ∃ q', FP.Core.decode FP.Core.b64 (FP.Core.encode FP.Core.b64 (.fin s c q)) = .fin s c q' := by
  rw [fp_encF]
  have h4 : (q - -1074).toNat ≤ 2045 := by omega
  generalize (q - -1074).toNat = E at h4
  have h5 : (s = false ∧ s.toNat = 0) ∨ (s = true ∧ s.toNat = 1) := by cases s <;> simp
  generalize hb : s.toNat = b at h5
  unfold FP.Core.decode FP.Core.fieldE FP.Core.fieldT FP.Core.fieldS
  split
  · rename_i hc
    have hn : ∃ n, (b * 2048 + 0) * 4503599627370496 + c = n ∧ n % 4503599627370496 = c ∧ n / 4503599627370496 % 2048 = 0 ∧ n / 4503599627370496 / 2048 % 2 = b := by
      refine ⟨_, rfl, ?_⟩
      rcases h5 with ⟨_, rfl⟩ | ⟨_, rfl⟩ <;> omega
    obtain ⟨n, e0, e1, e2, e3⟩ := hn
    rw [e0, fp_tails, fp_exps, e1, e2, e3]
    rw [if_neg (by decide), if_pos rfl]
    rcases h5 with ⟨rfl, rfl⟩ | ⟨rfl, rfl⟩
    · exact ⟨_, rfl⟩
    · exact ⟨_, rfl⟩
  · rename_i hc
    have hn : ∃ n, (b * 2048 + (E + 1)) * 4503599627370496 + (c - 4503599627370496) = n ∧ n % 4503599627370496 = c - 4503599627370496 ∧ n / 4503599627370496 % 2048 = E + 1 ∧ n / 4503599627370496 / 2048 % 2 = b := by
      refine ⟨_, rfl, ?_⟩
      rcases h5 with ⟨_, rfl⟩ | ⟨_, rfl⟩ <;> omega
    obtain ⟨n, e0, e1, e2, e3⟩ := hn
    rw [e0, fp_tails, fp_exps, e1, e2, e3]
    rw [if_neg (by omega), if_neg (by omega)]
    have e6 : 4503599627370496 + (c - 4503599627370496) = c := by omega
    rw [e6]
    rcases h5 with ⟨rfl, rfl⟩ | ⟨rfl, rfl⟩
    · exact ⟨_, rfl⟩
    · exact ⟨_, rfl⟩
theorem fp_i2d (a : Int32) : ∃ s c q, FP.Core.decode FP.Core.b64 (FP.i2d a).toNat = .fin s c q ∧ (a ≠ 0 → c ≠ 0) := by
  have h1 := Int32.toInt_lt a
  have h2 := Int32.le_toInt a
  obtain ⟨c, q, e1, k1, k2, k3, k4⟩ := fp_int (decide (a.toInt < 0)) (c := a.toInt.natAbs) (by omega)
  have e2 : FP.Core.fromInt FP.Core.b64 a.toInt = FP.Core.encode FP.Core.b64 (.fin (decide (a.toInt < 0)) c q) := congrArg (FP.Core.encode FP.Core.b64) e1
  have e3 : (FP.i2d a).toNat = FP.Core.encode FP.Core.b64 (.fin (decide (a.toInt < 0)) c q) := by
    show (UInt64.ofNat (FP.Core.fromInt FP.Core.b64 a.toInt)).toNat = _
    rw [UInt64.toNat_ofNat', e2]
    exact Nat.mod_eq_of_lt (fp_encode (d := .fin (decide (a.toInt < 0)) c q) ⟨k1, k2, k3⟩).1
  obtain ⟨q', e4⟩ := fp_decode (s := decide (a.toInt < 0)) k1 k2 k3
  refine ⟨_, c, q', by rw [e3]; exact e4, fun h => k4 (fun h0 => h ?_)⟩
  apply Int32.toInt_inj.mp
  show a.toInt = 0
  omega
/-- the FP.Core.quotient of two ints, the second one not zero, is a number -/
theorem fp_quot (x y : Int32) (h : y ≠ 0) : vf_n64 (FP.ddiv (FP.i2d x) (FP.i2d y)) := by
  obtain ⟨s, c, q, e1, _⟩ := fp_i2d x
  obtain ⟨t, d, r, e2, hd⟩ := fp_i2d y
  have e3 : FP.ddiv (FP.i2d x) (FP.i2d y) = UInt64.ofNat (FP.Core.encode FP.Core.b64 (FP.Core.quotient FP.Core.b64 (FP.Core.decode FP.Core.b64 (FP.i2d x).toNat) (FP.Core.decode FP.Core.b64 (FP.i2d y).toNat))) := rfl
  rw [e3, e1, e2]
  refine fp_num ?_
  show okD (if d = 0 then (if c = 0 then .nan else .inf (s != t)) else FP.Core.roundRatio FP.Core.b64 (s != t) c d (q - r))
  rw [if_neg (hd h)]
  exact fp_ratio _ _ _ _
def hrM (v : gV) (t : Nat) : Int32 := vCo v (t * 4 + 1) + vCo v (t * 4 + 0) + vCo v (t * 4 + 2)
def hrR (v : gV) (t : Nat) : UInt64 := if hrM v t = 0 then FP.dconst0 else FP.ddiv (FP.i2d (vCo v (t * 4 + 1))) (FP.i2d (hrM v t))
def sX6_hitRate : gSX := fun av es K KX => ∃ x v wy n ch H o s r, av = [.ref 0, .int x] ∧ o < 6 ∧ s ≤ 6 ∧ es = wX v wy n ch H o s r ∧ (∀ t, t < 4 → x = nI t → K (some (.double (hrR v t))) es) ∧ (¬ inI x 4 → KX "java/lang/IndexOutOfBoundsException" (wX v wy n ch H o s r))
def rmX6_hitRate : Room := { frames := 8, cells := 1, slots := 6, locals := 131 }
def pX6_hitRate (K : gK) (KX : gKX) : List (Nat × gO) := [(0, oFR 17 (oILoad 1)), (1, oCallSX 1 6 1 6 1 6 1 [] sX6_requireTenant KX), (4, oFR 17 (oILoad 1)), (5, oConst (nI 4)), (6, oMul), (7, oIStore 5 2), (8, oFR 17 (oALoad 0)), (9, oGet 6 0), (12, oGet 4 3), (15, oILoad 2), (16, oConst (nI 1)), (17, oAdd), (18, oIALd 0), (19, oIStore 5 3), (20, oFR 17 (oILoad 3)), (21, oALoad 0), (22, oGet 6 0), (25, oGet 4 3), (28, oILoad 2), (29, oConst (nI 0)), (30, oAdd), (31, oIALd 0), (32, oAdd), (33, oALoad 0), (34, oGet 6 0), (37, oGet 4 3), (40, oILoad 2), (41, oConst (nI 2)), (42, oAdd), (43, oIALd 0), (44, oAdd), (45, oIStore 5 4), (47, oFR 17 (oILoad 4)), (49, oIf_ne 56), (52, oDConst0), (53, oGoto 62), (56, oILoad 3), (57, oI2D), (58, oILoad 4), (60, oI2D), (61, oDDiv), (62, oRetD K 1 6)]
set_option maxRecDepth 100000 in
theorem kX6_hitRate {X : gX} {l : Launch} (hM : gM X l cX6_hitRate RX6 wsX6_hitRate rmX6_hitRate) {K : gK} (hE : gR X K 1 6 (some .double)) {KX : gKX} (hX : gRX X KX 1 6) (hl : l.stackTraces = false) (hnL : X.2.2.2.2.2.2.2.2.2.2.2.2.2.2.2.2 = 5) : okL X (pX6_hitRate K KX) := by
  obtain ⟨p, l1, e, R, s, m, args, below, meth, c, D, cA, A, ag, ad0, Q, nL⟩ := X
  cases hnL
  refine ⟨ok_FR (ok_iload_n hM 1 dX6_hitRate_0 rfl),
    ok_callSX hM hX [] (ctX6_requireTenant l hl) rfl gX6_hitRate_X6_requireTenant rfl rfl rfl (by decide +kernel) (by decide) dX6_hitRate_1,
    ok_FR (ok_iload_n hM 1 dX6_hitRate_4 rfl),
    ok_iconst hM dX6_hitRate_5 rfl,
    ok_imul hM dX6_hitRate_6,
    ok_istore_n hM 2 dX6_hitRate_7 rfl,
    ok_FR (ok_aload_n hM 0 dX6_hitRate_8 rfl),
    ok_get (C := RX6) (T := TX6) (Nf := 6) hM (fun _ h => List.mem_cons_of_mem _ (List.mem_append_left _ (List.mem_append_left _ (List.mem_append_right _ h)))) rfl 0 (by decide) (List.mem_of_getElem? (i := 1) rfl) rfl dX6_hitRate_9,
    ok_get (C := RX4) (T := TX4) (Nf := 6) hM (fun _ h => List.mem_cons_of_mem _ (List.mem_append_left _ (List.mem_append_right _ h))) rfl 3 (by decide) (List.mem_of_getElem? (i := 2) rfl) rfl dX6_hitRate_12,
    ok_iload_n hM 2 dX6_hitRate_15 rfl,
    ok_iconst hM dX6_hitRate_16 rfl,
    ok_iadd hM dX6_hitRate_17,
    ok_iald hM dX6_hitRate_18,
    ok_istore_n hM 3 dX6_hitRate_19 rfl,
    ok_FR (ok_iload_n hM 3 dX6_hitRate_20 rfl),
    ok_aload_n hM 0 dX6_hitRate_21 rfl,
    ok_get (C := RX6) (T := TX6) (Nf := 6) hM (fun _ h => List.mem_cons_of_mem _ (List.mem_append_left _ (List.mem_append_left _ (List.mem_append_right _ h)))) rfl 0 (by decide) (List.mem_of_getElem? (i := 1) rfl) rfl dX6_hitRate_22,
    ok_get (C := RX4) (T := TX4) (Nf := 6) hM (fun _ h => List.mem_cons_of_mem _ (List.mem_append_left _ (List.mem_append_right _ h))) rfl 3 (by decide) (List.mem_of_getElem? (i := 2) rfl) rfl dX6_hitRate_25,
    ok_iload_n hM 2 dX6_hitRate_28 rfl,
    ok_iconst hM dX6_hitRate_29 rfl,
    ok_iadd hM dX6_hitRate_30,
    ok_iald hM dX6_hitRate_31,
    ok_iadd hM dX6_hitRate_32,
    ok_aload_n hM 0 dX6_hitRate_33 rfl,
    ok_get (C := RX6) (T := TX6) (Nf := 6) hM (fun _ h => List.mem_cons_of_mem _ (List.mem_append_left _ (List.mem_append_left _ (List.mem_append_right _ h)))) rfl 0 (by decide) (List.mem_of_getElem? (i := 1) rfl) rfl dX6_hitRate_34,
    ok_get (C := RX4) (T := TX4) (Nf := 6) hM (fun _ h => List.mem_cons_of_mem _ (List.mem_append_left _ (List.mem_append_right _ h))) rfl 3 (by decide) (List.mem_of_getElem? (i := 2) rfl) rfl dX6_hitRate_37,
    ok_iload_n hM 2 dX6_hitRate_40 rfl,
    ok_iconst hM dX6_hitRate_41 rfl,
    ok_iadd hM dX6_hitRate_42,
    ok_iald hM dX6_hitRate_43,
    ok_iadd hM dX6_hitRate_44,
    ok_istore hM 4 dX6_hitRate_45,
    ok_FR (ok_iload hM 4 dX6_hitRate_47),
    ok_if_ne hM 56 dX6_hitRate_49 (by decide),
    ok_dconst0 hM dX6_hitRate_52,
    ok_goto hM 62 dX6_hitRate_53 (by decide),
    ok_iload_n hM 3 dX6_hitRate_56 rfl,
    ok_i2d hM dX6_hitRate_57,
    ok_iload hM 4 dX6_hitRate_58,
    ok_i2d hM dX6_hitRate_60,
    ok_ddiv hM dX6_hitRate_61,
    ok_retD hM hE dX6_hitRate_62,
    trivial⟩
set_option maxRecDepth 100000 in
theorem ctX6_hitRate (l : Launch) (hl : l.stackTraces = false) : CtX l yX6_hitRate wsX6_hitRate rmX6_hitRate 1 6 sX6_hitRate := by
  refine ctX_of (own := RX6) (cc := cX6_hitRate) (maxL := 5) (ret := (some .double)) (by decide) rfl rfl (by rintro _ _ _ _ ⟨x, v, wy, n, ch, H, o, s, r, rfl, ho, hs, rfl, hK, hX0⟩; exact Nat.le_of_ble_eq_true rfl) ?_
  intro X av es K KX hM hE hX hnL hsp
  obtain ⟨x, v, wy, n, ch, H, o, s, r, rfl, ho, hs, rfl, hK, hX0⟩ := hsp
  have hf := kX6_hitRate hM hE hX hl hnL
  refine wr_ok hf cut_nil 5 0 _ _ _ _ _ ?_
  refine ⟨_, rfl, rfl, fun t ht et => ?_, fun q => ?_⟩
  · subst et
    have hK := hK t ht rfl
    unfold hrR at hK
    refine ⟨t * 4 + 1, by rw [pk_mul, nI_add], by omega, ?_⟩
    refine ⟨t * 4 + 0, by rw [pk_mul, nI_add], by omega, ?_⟩
    refine ⟨t * 4 + 2, by rw [pk_mul, nI_add], by omega, ?_⟩
    refine ⟨fun h1 => ?_, fun h1 => ?_⟩
    · have h2 : ¬ hrM v t = 0 := h1
      rw [if_neg h2] at hK
      exact ⟨fp_quot _ _ h2, hK⟩
    · have h2 : hrM v t = 0 := h1
      rw [if_pos h2] at hK
      exact hK
  · exact hX0  q
end MQ9

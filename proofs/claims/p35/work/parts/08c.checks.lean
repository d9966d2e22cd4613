/-! PartitionedCache: a command, and the checks that throw. -/
section MQ2
abbrev txc (n : Nat) (ch : Nat → Nat) (r : List gE) : List gE := .inr (0, [.ref 14, .int (nI n)]) :: .inl (1, 80, .inl (nF ch)) :: r
abbrev rmV (v : gV) (t : Nat) : gV := (vOw v, rmv (vHd v) (nI t), vSt v, vAd v, vGa v, vLe v, vCo v, vEp v, vAc v)
-- checks
theorem nI_inR {x : Int32} {b : Nat} (hb : b < 2 ^ 31) (h1 : 0 ≤ x) (h2 : x < nI b) : ∃ n, n < b ∧ x = nI n := by
  have h3 : (0 : Int) ≤ x.toInt := by
    have := Int32.le_iff_toInt_le.mp h1
    simpa using this
  have h4 : x.toInt < (b : Int) := by
    have := Int32.lt_iff_toInt_lt.mp h2
    rwa [nI_toInt hb] at this
  refine ⟨x.toInt.toNat, by omega, ?_⟩
  apply Int32.toInt_inj.mp
  rw [nI_toInt (by omega)]
  omega
def sX6_requireIndex : gSX := fun av es K KX => ∃ x y b, av = [.int x, .int y] ∧ y = nI b ∧ b < 2 ^ 31 ∧ es = [] ∧ (∀ n, n < b → x = nI n → K none []) ∧ ((¬ ∃ n, n < b ∧ x = nI n) → KX "java/lang/IndexOutOfBoundsException" [])
def rmX6_requireIndex : Room := { frames := 6, cells := 1, slots := 6, locals := 90 }
def pX6_requireIndex (K : gK) (KX : gKX) : List (Nat × gO) := [(0, oF (oILoad 0)), (1, oIf_lt 9), (4, oILoad 0), (5, oILoad 1), (6, oICmp_lt 19), (9, oThrow KX "java/lang/IndexOutOfBoundsException" 1 6), (19, oRetV K 1 6)]
set_option maxRecDepth 100000 in
theorem kX6_requireIndex {X : gX} {l : Launch} (hM : gM X l cX6_requireIndex RX6 wsX6_requireIndex rmX6_requireIndex) {K : gK} (hE : gR X K 1 6 none) {KX : gKX} (hX : gRX X KX 1 6) (hl : l.stackTraces = false) (hnL : X.2.2.2.2.2.2.2.2.2.2.2.2.2.2.2.2 = 2) : okL X (pX6_requireIndex K KX) := by
  obtain ⟨p, l1, e, R, s, m, args, below, meth, c, D, cA, A, ag, ad0, Q, nL⟩ := X
  cases hnL
  refine ⟨ok_F (ok_iload_n hM 0 dX6_requireIndex_0 rfl),
    ok_if_lt hM 9 dX6_requireIndex_1 (by decide),
    ok_iload_n hM 0 dX6_requireIndex_4 rfl,
    ok_iload_n hM 1 dX6_requireIndex_5 rfl,
    ok_icmp_lt hM 19 dX6_requireIndex_6 (by decide),
    ok_throw hM hX hl (text := "no such tenant, way, set, position or slot") "java/lang/IndexOutOfBoundsException" ["java/lang/RuntimeException", "java/lang/Exception"] (by decide +kernel) (by decide +kernel) rfl (List.mem_of_getElem? (i := 1) rfl) (List.mem_of_getElem? (i := 2) rfl) (by decide +kernel) (by decide +kernel) gBad_1 (by decide +kernel) (by decide) (by decide) ⟨Nat.le_refl _, Nat.le_refl _⟩ dX6_requireIndex_9 dX6_requireIndex_12 dX6_requireIndex_13 dX6_requireIndex_15 dX6_requireIndex_18,
    ok_retV hM hE dX6_requireIndex_19,
    trivial⟩
set_option maxRecDepth 100000 in
theorem ctX6_requireIndex (l : Launch) (hl : l.stackTraces = false) : CtX l yX6_requireIndex wsX6_requireIndex rmX6_requireIndex 1 6 sX6_requireIndex := by
  refine ctX_of (own := RX6) (cc := cX6_requireIndex) (maxL := 2) (ret := none) (by decide) rfl rfl (by rintro _ _ _ _ ⟨x, y, b, rfl, rfl, hb, rfl, hK, hKX⟩; exact Nat.le_of_ble_eq_true rfl) ?_
  intro X av es K KX hM hE hX hnL hsp
  obtain ⟨x, y, b, rfl, rfl, hb, rfl, hK, hKX⟩ := hsp
  have hf := kX6_requireIndex hM hE hX hl hnL
  refine wr_ok hf cut_nil 5 0 _ _ _ _ _ ?_
  refine ⟨fun h1 => ?_, fun h1 => ?_⟩
  · refine hKX (fun ⟨n, hn, q⟩ => ?_)
    rw [q] at h1
    exact absurd h1 (nI_pos (by omega))
  · have h1' : 0 ≤ x := by first | exact h1 | exact Int32.not_lt.mp h1
    refine ⟨fun h2 => ?_, fun h2 => ?_⟩
    · have h2' : x < nI b := by first | exact h2 | exact Int32.not_le.mp h2
      obtain ⟨n, hn, q⟩ := nI_inR hb h1' h2'
      exact hK n hn q
    · have h2' : ¬ x < nI b := by first | exact h2 | exact Int32.not_lt.mpr h2
      refine hKX (fun ⟨n, hn, q⟩ => ?_)
      rw [q, nI_ltI (by omega) hb] at h2'
      omega
def sX6_requireTenant : gSX := fun av es K KX => ∃ x, av = [.int x] ∧ es = [] ∧ (∀ n, n < 4 → x = nI n → K none []) ∧ ((¬ ∃ n, n < 4 ∧ x = nI n) → KX "java/lang/IndexOutOfBoundsException" [])
def rmX6_requireTenant : Room := { frames := 7, cells := 1, slots := 6, locals := 111 }
def pX6_requireTenant (K : gK) (KX : gKX) : List (Nat × gO) := [(0, oF (oILoad 0)), (1, oConst (nI 4)), (2, oCallSX 1 6 1 6 1 6 2 [] sX6_requireIndex KX), (5, oF (oRetV K 1 6))]
set_option maxRecDepth 100000 in
theorem kX6_requireTenant {X : gX} {l : Launch} (hM : gM X l cX6_requireTenant RX6 wsX6_requireTenant rmX6_requireTenant) {K : gK} (hE : gR X K 1 6 none) {KX : gKX} (hX : gRX X KX 1 6) (hl : l.stackTraces = false) (hnL : X.2.2.2.2.2.2.2.2.2.2.2.2.2.2.2.2 = 1) : okL X (pX6_requireTenant K KX) := by
  obtain ⟨p, l1, e, R, s, m, args, below, meth, c, D, cA, A, ag, ad0, Q, nL⟩ := X
  cases hnL
  refine ⟨ok_F (ok_iload_n hM 0 dX6_requireTenant_0 rfl),
    ok_iconst hM dX6_requireTenant_1 rfl,
    ok_callSX hM hX [] (ctX6_requireIndex l hl) rfl gX6_requireTenant_X6_requireIndex rfl rfl rfl (by decide +kernel) (by decide) dX6_requireTenant_2,
    ok_F (ok_retV hM hE dX6_requireTenant_5),
    trivial⟩
set_option maxRecDepth 100000 in
theorem ctX6_requireTenant (l : Launch) (hl : l.stackTraces = false) : CtX l yX6_requireTenant wsX6_requireTenant rmX6_requireTenant 1 6 sX6_requireTenant := by
  refine ctX_of (own := RX6) (cc := cX6_requireTenant) (maxL := 1) (ret := none) (by decide) rfl rfl (by rintro _ _ _ _ ⟨x, rfl, rfl, hK, hKX⟩; exact Nat.le_of_ble_eq_true rfl) ?_
  intro X av es K KX hM hE hX hnL hsp
  obtain ⟨x, rfl, rfl, hK, hKX⟩ := hsp
  have hf := kX6_requireTenant hM hE hX hl hnL
  refine wr_ok hf cut_nil 5 0 _ _ _ _ _ ?_
  exact ⟨_, _, 4, rfl, rfl, by decide, rfl, fun n hn q => hK n hn q, fun q => hKX q⟩
def sX6_requireArgument : gSX := fun av es K KX => ∃ x y z lo hi, av = [.int x, .int y, .int z] ∧ y = nI lo ∧ z = nI hi ∧ lo ≤ hi ∧ hi < 2 ^ 31 - 1 ∧ es = [] ∧ (∀ n, lo ≤ n → n ≤ hi → x = nI n → K none []) ∧ ((¬ ∃ n, lo ≤ n ∧ n ≤ hi ∧ x = nI n) → KX "java/lang/IllegalArgumentException" [])
def rmX6_requireArgument : Room := { frames := 6, cells := 1, slots := 6, locals := 90 }
def pX6_requireArgument (K : gK) (KX : gKX) : List (Nat × gO) := [(0, oF (oILoad 0)), (1, oILoad 1), (2, oICmp_lt 10), (5, oILoad 0), (6, oILoad 2), (7, oICmp_le 20), (10, oThrow KX "java/lang/IllegalArgumentException" 1 6), (20, oRetV K 1 6)]
set_option maxRecDepth 100000 in
theorem kX6_requireArgument {X : gX} {l : Launch} (hM : gM X l cX6_requireArgument RX6 wsX6_requireArgument rmX6_requireArgument) {K : gK} (hE : gR X K 1 6 none) {KX : gKX} (hX : gRX X KX 1 6) (hl : l.stackTraces = false) (hnL : X.2.2.2.2.2.2.2.2.2.2.2.2.2.2.2.2 = 3) : okL X (pX6_requireArgument K KX) := by
  obtain ⟨p, l1, e, R, s, m, args, below, meth, c, D, cA, A, ag, ad0, Q, nL⟩ := X
  cases hnL
  refine ⟨ok_F (ok_iload_n hM 0 dX6_requireArgument_0 rfl),
    ok_iload_n hM 1 dX6_requireArgument_1 rfl,
    ok_icmp_lt hM 10 dX6_requireArgument_2 (by decide),
    ok_iload_n hM 0 dX6_requireArgument_5 rfl,
    ok_iload_n hM 2 dX6_requireArgument_6 rfl,
    ok_icmp_le hM 20 dX6_requireArgument_7 (by decide),
    ok_throw hM hX hl (text := "the number is out of range") "java/lang/IllegalArgumentException" ["java/lang/RuntimeException", "java/lang/Exception"] (by decide +kernel) (by decide +kernel) rfl (List.mem_of_getElem? (i := 1) rfl) (List.mem_of_getElem? (i := 2) rfl) (by decide +kernel) (by decide +kernel) gBad_2 (by decide +kernel) (by decide) (by decide) ⟨Nat.le_refl _, Nat.le_refl _⟩ dX6_requireArgument_10 dX6_requireArgument_13 dX6_requireArgument_14 dX6_requireArgument_16 dX6_requireArgument_19,
    ok_retV hM hE dX6_requireArgument_20,
    trivial⟩
set_option maxRecDepth 100000 in
theorem ctX6_requireArgument (l : Launch) (hl : l.stackTraces = false) : CtX l yX6_requireArgument wsX6_requireArgument rmX6_requireArgument 1 6 sX6_requireArgument := by
  refine ctX_of (own := RX6) (cc := cX6_requireArgument) (maxL := 3) (ret := none) (by decide) rfl rfl (by rintro _ _ _ _ ⟨x, y, z, lo, hi, rfl, rfl, rfl, hlh, hhi, rfl, hK, hKX⟩; exact Nat.le_of_ble_eq_true rfl) ?_
  intro X av es K KX hM hE hX hnL hsp
  obtain ⟨x, y, z, lo, hi, rfl, rfl, rfl, hlh, hhi, rfl, hK, hKX⟩ := hsp
  have hf := kX6_requireArgument hM hE hX hl hnL
  refine wr_ok hf cut_nil 5 0 _ _ _ _ _ ?_
  refine ⟨fun h1 => ?_, fun h1 => ?_⟩
  · have h1' : x < nI lo := by first | exact h1 | exact Int32.not_le.mp h1
    refine hKX (fun ⟨n, hn, hn2, q⟩ => ?_)
    rw [q, nI_ltI (by omega) (by omega)] at h1'
    omega
  · have h1' : nI lo ≤ x := by first | exact h1 | exact Int32.not_lt.mp h1
    have h0 : 0 ≤ x := Int32.le_trans (nI_pos' (by omega)) h1'
    refine ⟨fun h2 => ?_, fun h2 => ?_⟩
    · have h2' : x ≤ nI hi := by first | exact h2 | exact Int32.not_lt.mp h2
      have h3 : x < nI (hi + 1) := Int32.lt_of_le_of_lt h2' ((nI_ltI (by omega) (by omega)).mpr (by omega))
      obtain ⟨n, hn, q⟩ := nI_inR (by omega) h0 h3
      have h4 : lo ≤ n := by
        rw [q, nI_leI (by omega) (by omega)] at h1'
        exact h1'
      exact hK n h4 (by omega) q
    · have h2' : ¬ x ≤ nI hi := by first | exact h2 | exact Int32.not_le.mpr h2
      refine hKX (fun ⟨n, hn, hn2, q⟩ => ?_)
      rw [q, nI_leI (by omega) (by omega)] at h2'
      omega
end MQ2

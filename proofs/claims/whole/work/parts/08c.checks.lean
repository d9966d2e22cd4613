/-! PartitionedCache: a command, and the checks that throw. -/
section MQ2
abbrev txc (n : Nat) (ch : Nat → Nat) (r : List gE) : List gE := .inr (0, [.ref 14, .int (nI n)]) :: .inl (1, 80, .inl (nF ch)) :: r
/-- a command begins at i -/
def rcC (n : Nat) (ch : Nat → Nat) (i : Nat) : Prop := ch i = 109 ∨ ch i = 104 ∨ (ch i = 102 ∧ i + 1 < n ∧ 48 ≤ ch (i + 1) ∧ ch (i + 1) < 52) ∨ (48 ≤ ch i ∧ ch i < 52 ∧ numN ch (n - (i + 2)) (i + 2) 0 < 256)
abbrev rmV (v : gV) (t : Nat) : gV := (vOw v, rmv (vHd v) (nI t), vSt v, vAd v, vGa v, vLe v, vCo v, vEp v, vAc v)
def rcV (L : Nat → Nat) (n : Nat) (ch : Nat → Nat) (i : Nat) (v : gV) : gV := if ch i = 109 then mvV L v else if ch i = 104 then hlV v else if ch i = 102 then rmV v (ch (i + 1) - 48) else acV L v (ch i - 48) (numN ch (n - (i + 2)) (i + 2) 0)
def rcR (n : Nat) (ch : Nat → Nat) (i : Nat) (v : gV) : Int32 := if ch i = 109 then -1 else if ch i = 104 then -1 else if ch i = 102 then -1 else nI (acR v (ch i - 48) (numN ch (n - (i + 2)) (i + 2) 0))
def sX6_runCommand : gS := fun av es K => ∃ x i n ch v wy r L, av = [.ref 0, .int x] ∧ x = nI i ∧ i < n ∧ n ≤ 80 ∧ (∀ j, j < n → ch j < 1000) ∧ rcC n ch i ∧ (∀ t, t < 4 → vLe v t = nI (L t) ∧ L t ≤ 2) ∧ es = w13 v wy (txc n ch r) ∧ ∀ wy', K (some (.int (rcR n ch i v))) (w13 (rcV L n ch i v) wy' (txc n ch r))
def rmX6_runCommand : Room := { frames := 5, cells := 0, slots := 0, locals := 119 }
def pX6_runCommand (K : gK) : List (Nat × gO) := [(0, oFR 15 (oALoad 0)), (1, oGet 6 3), (4, oILoad 1), (5, oCallVR 15 0 0 0 1 [13,14] sX0_signAt), (8, oFR 15 (oIStore 5 2)), (9, oFR 15 (oILoad 2)), (10, oConst (nI 109)), (12, oICmp_ne 23), (15, oALoad 0), (16, oCallV0 0 0 6 0 sX6_moveOneWay), (19, oFR 15 (oPop)), (20, oGoto 122), (23, oILoad 2), (24, oConst (nI 104)), (26, oICmp_ne 42), (29, oALoad 0), (30, oGet 6 0), (33, oGet 4 1), (36, oCallVR 15 0 0 2 0 [6,7,8] sX2_halve), (39, oGoto 122), (42, oFR 15 (oILoad 2)), (43, oConst (nI 102)), (45, oICmp_ne 75), (48, oALoad 0), (49, oGet 6 0), (52, oGet 4 0), (55, oALoad 0), (56, oGet 6 3), (59, oILoad 1), (60, oConst (nI 1)), (61, oAdd), (62, oCallVR 15 0 0 0 1 [13,14] sX0_signAt), (65, oConst (nI 48)), (67, oSub), (68, oFR 15 (oCallVR 15 0 0 3 1 [2,3,4,5] sX3_removeLinesOf)), (71, oFR 15 (oPop)), (72, oGoto 122), (75, oILoad 2), (76, oConst (nI 48)), (78, oSub), (79, oIStore 5 3), (80, oFR 15 (oALoad 0)), (81, oGet 6 3), (84, oILoad 1), (85, oConst (nI 2)), (86, oAdd), (87, oCallVR 15 0 0 0 1 [13,14] sX0_numberAt), (90, oFR 15 (oIStore 5 4)), (92, oFR 15 (oILoad 3)), (93, oIf_lt 122), (96, oILoad 3), (97, oConst (nI 4)), (98, oICmp_ge 122), (101, oILoad 4), (103, oIf_lt 122), (106, oILoad 4), (108, oConst (nI 256)), (111, oICmp_ge 122), (114, oALoad 0), (115, oILoad 3), (116, oILoad 4), (118, oCallV0 0 0 6 2 sX6_makeAccess), (121, oFR 15 (oRet K 0 0)), (122, oConst (-1)), (123, oRet K 0 0)]
set_option maxRecDepth 100000 in
theorem kX6_runCommand {X : gX} {l : Launch} (hM : gM X l cX6_runCommand RX6 wsX6_runCommand rmX6_runCommand) {K : gK} (hE : gR X K 0 0 (some .int)) (hnL : X.2.2.2.2.2.2.2.2.2.2.2.2.2.2.2.2 = 5) : okL X (pX6_runCommand K) := by
  obtain ⟨p, l1, e, R, s, m, args, below, meth, c, D, cA, A, ag, ad0, Q, nL⟩ := X
  cases hnL
  refine ⟨ok_FR (ok_aload_n hM 0 dX6_runCommand_0 rfl),
    ok_get (C := RX6) (T := TX6) (Nf := 6) hM (fun _ h => List.mem_cons_of_mem _ (List.mem_append_left _ (List.mem_append_left _ (List.mem_append_left _ (List.mem_append_left _ (List.mem_append_left _ (List.mem_append_right _ h))))))) rfl 3 (by decide) (List.mem_of_getElem? (i := 1) rfl) rfl dX6_runCommand_1,
    ok_iload_n hM 1 dX6_runCommand_4 rfl,
    ok_R (ok_callV hM [13,14] (ctX0_signAt l) rfl rfl gX6_runCommand_X0_signAt rfl rfl rfl (by decide +kernel) (by decide) dX6_runCommand_5),
    ok_FR (ok_istore_n hM 2 dX6_runCommand_8 rfl),
    ok_FR (ok_iload_n hM 2 dX6_runCommand_9 rfl),
    ok_bipush hM dX6_runCommand_10 rfl,
    ok_icmp_ne hM 23 dX6_runCommand_12 (by decide),
    ok_aload_n hM 0 dX6_runCommand_15 rfl,
    ok_callV0 hM (ctX6_moveOneWay l) rfl gX6_runCommand_X6_moveOneWay rfl rfl rfl (by decide +kernel) (by decide) dX6_runCommand_16,
    ok_FR (ok_pop hM dX6_runCommand_19),
    ok_goto hM 122 dX6_runCommand_20 (by decide),
    ok_iload_n hM 2 dX6_runCommand_23 rfl,
    ok_bipush hM dX6_runCommand_24 rfl,
    ok_icmp_ne hM 42 dX6_runCommand_26 (by decide),
    ok_aload_n hM 0 dX6_runCommand_29 rfl,
    ok_get (C := RX6) (T := TX6) (Nf := 6) hM (fun _ h => List.mem_cons_of_mem _ (List.mem_append_left _ (List.mem_append_left _ (List.mem_append_left _ (List.mem_append_left _ (List.mem_append_left _ (List.mem_append_right _ h))))))) rfl 0 (by decide) (List.mem_of_getElem? (i := 2) rfl) rfl dX6_runCommand_30,
    ok_get (C := RX4) (T := TX4) (Nf := 6) hM (fun _ h => List.mem_cons_of_mem _ (List.mem_append_left _ (List.mem_append_left _ (List.mem_append_left _ (List.mem_append_left _ (List.mem_append_right _ h)))))) rfl 1 (by decide) (List.mem_of_getElem? (i := 3) rfl) rfl dX6_runCommand_33,
    ok_R (ok_callV hM [6,7,8] (ctX2_halve l) rfl rfl gX6_runCommand_X2_halve rfl rfl rfl (by decide +kernel) (by decide) dX6_runCommand_36),
    ok_goto hM 122 dX6_runCommand_39 (by decide),
    ok_FR (ok_iload_n hM 2 dX6_runCommand_42 rfl),
    ok_bipush hM dX6_runCommand_43 rfl,
    ok_icmp_ne hM 75 dX6_runCommand_45 (by decide),
    ok_aload_n hM 0 dX6_runCommand_48 rfl,
    ok_get (C := RX6) (T := TX6) (Nf := 6) hM (fun _ h => List.mem_cons_of_mem _ (List.mem_append_left _ (List.mem_append_left _ (List.mem_append_left _ (List.mem_append_left _ (List.mem_append_left _ (List.mem_append_right _ h))))))) rfl 0 (by decide) (List.mem_of_getElem? (i := 2) rfl) rfl dX6_runCommand_49,
    ok_get (C := RX4) (T := TX4) (Nf := 6) hM (fun _ h => List.mem_cons_of_mem _ (List.mem_append_left _ (List.mem_append_left _ (List.mem_append_left _ (List.mem_append_left _ (List.mem_append_right _ h)))))) rfl 0 (by decide) (List.mem_of_getElem? (i := 4) rfl) rfl dX6_runCommand_52,
    ok_aload_n hM 0 dX6_runCommand_55 rfl,
    ok_get (C := RX6) (T := TX6) (Nf := 6) hM (fun _ h => List.mem_cons_of_mem _ (List.mem_append_left _ (List.mem_append_left _ (List.mem_append_left _ (List.mem_append_left _ (List.mem_append_left _ (List.mem_append_right _ h))))))) rfl 3 (by decide) (List.mem_of_getElem? (i := 1) rfl) rfl dX6_runCommand_56,
    ok_iload_n hM 1 dX6_runCommand_59 rfl,
    ok_iconst hM dX6_runCommand_60 rfl,
    ok_iadd hM dX6_runCommand_61,
    ok_R (ok_callV hM [13,14] (ctX0_signAt l) rfl rfl gX6_runCommand_X0_signAt rfl rfl rfl (by decide +kernel) (by decide) dX6_runCommand_62),
    ok_bipush hM dX6_runCommand_65 rfl,
    ok_isub hM dX6_runCommand_67,
    ok_FR (ok_R (ok_callV hM [2,3,4,5] (ctX3_removeLinesOf l) rfl rfl gX6_runCommand_X3_removeLinesOf rfl rfl rfl (by decide +kernel) (by decide) dX6_runCommand_68)),
    ok_FR (ok_pop hM dX6_runCommand_71),
    ok_goto hM 122 dX6_runCommand_72 (by decide),
    ok_iload_n hM 2 dX6_runCommand_75 rfl,
    ok_bipush hM dX6_runCommand_76 rfl,
    ok_isub hM dX6_runCommand_78,
    ok_istore_n hM 3 dX6_runCommand_79 rfl,
    ok_FR (ok_aload_n hM 0 dX6_runCommand_80 rfl),
    ok_get (C := RX6) (T := TX6) (Nf := 6) hM (fun _ h => List.mem_cons_of_mem _ (List.mem_append_left _ (List.mem_append_left _ (List.mem_append_left _ (List.mem_append_left _ (List.mem_append_left _ (List.mem_append_right _ h))))))) rfl 3 (by decide) (List.mem_of_getElem? (i := 1) rfl) rfl dX6_runCommand_81,
    ok_iload_n hM 1 dX6_runCommand_84 rfl,
    ok_iconst hM dX6_runCommand_85 rfl,
    ok_iadd hM dX6_runCommand_86,
    ok_R (ok_callV hM [13,14] (ctX0_numberAt l) rfl rfl gX6_runCommand_X0_numberAt rfl rfl rfl (by decide +kernel) (by decide) dX6_runCommand_87),
    ok_FR (ok_istore hM 4 dX6_runCommand_90),
    ok_FR (ok_iload_n hM 3 dX6_runCommand_92 rfl),
    ok_if_lt hM 122 dX6_runCommand_93 (by decide),
    ok_iload_n hM 3 dX6_runCommand_96 rfl,
    ok_iconst hM dX6_runCommand_97 rfl,
    ok_icmp_ge hM 122 dX6_runCommand_98 (by decide),
    ok_iload hM 4 dX6_runCommand_101,
    ok_if_lt hM 122 dX6_runCommand_103 (by decide),
    ok_iload hM 4 dX6_runCommand_106,
    ok_sipush hM dX6_runCommand_108 rfl,
    ok_icmp_ge hM 122 dX6_runCommand_111 (by decide),
    ok_aload_n hM 0 dX6_runCommand_114 rfl,
    ok_iload_n hM 3 dX6_runCommand_115 rfl,
    ok_iload hM 4 dX6_runCommand_116,
    ok_callV0 hM (ctX6_makeAccess l) rfl gX6_runCommand_X6_makeAccess rfl rfl rfl (by decide +kernel) (by decide) dX6_runCommand_118,
    ok_FR (ok_ret hM hE dX6_runCommand_121),
    ok_iconst hM dX6_runCommand_122 rfl,
    ok_ret hM hE dX6_runCommand_123,
    trivial⟩
set_option maxRecDepth 100000 in
theorem ctX6_runCommand (l : Launch) : Ct l yX6_runCommand wsX6_runCommand rmX6_runCommand 0 0 false sX6_runCommand := by
  refine ct_of (own := RX6) (cc := cX6_runCommand) (maxL := 5) (ret := (some .int)) (by decide) rfl rfl (by rintro _ _ _ ⟨x, i, n, ch, v, wy, r, L, rfl, rfl, hi, hn, hch, hC, hL, rfl, hK⟩; exact Nat.le_of_ble_eq_true rfl) ?_
  intro X av es K hM hE hag hin hnL hsp
  obtain ⟨x, i, n, ch, v, wy, r, L, rfl, rfl, hi, hn, hch, hC, hL, rfl, hK⟩ := hsp
  have hf := kX6_runCommand hM hE hnL
  have hs : sgn ch n i = nI (ch i) := if_pos hi
  have hc0 := hch i hi
  refine wr_ok hf cut_nil 5 0 _ _ _ _ _ ?_
  refine ⟨_, i, n, ch, rfl, rfl, by omega, hn, rfl, ?_⟩
  rw [hs]
  refine ⟨fun h1 => ?_, fun h1 => ?_⟩
  · have h1' : ¬ ch i = 109 := fun q => h1 (by rw [q])
    refine ⟨fun h2 => ?_, fun h2 => ?_⟩
    · have h2' : ¬ ch i = 104 := fun q => h2 (by rw [q])
      refine ⟨fun h3 => ?_, fun h3 => ?_⟩
      · have h3' : ¬ ch i = 102 := fun q => h3 (by rw [q])
        obtain ⟨h4, h5, h6⟩ : 48 ≤ ch i ∧ ch i < 52 ∧ numN ch (n - (i + 2)) (i + 2) 0 < 256 := by
          rcases hC with q | q | q | q
          · exact absurd q h1'
          · exact absurd q h2'
          · exact absurd q.1 h3'
          · exact q
        have e1 : nI (ch i) - nI 48 = nI (ch i - 48) := pk_sub h4
        refine ⟨_, i + 2, n, ch, rfl, by rw [nI_add], by omega, hn, hch, rfl, ?_⟩
        refine ⟨fun q => ?_, fun _ => ?_⟩
        · rw [e1] at q
          exact absurd q (nI_pos (by omega))
        refine ⟨fun q => ?_, fun _ => ?_⟩
        · rw [e1] at q
          have q : nI 4 ≤ nI (ch i - 48) := by first | exact q | exact Int32.not_lt.mp q
          rw [nI_leI (by decide) (by omega)] at q
          omega
        refine ⟨fun q => ?_, fun _ => ?_⟩
        · exact absurd q (nI_pos (by omega))
        refine ⟨fun q => ?_, fun _ => ?_⟩
        · have q : nI 256 ≤ nI (numN ch (n - (i + 2)) (i + 2) 0) := by first | exact q | exact Int32.not_lt.mp q
          rw [nI_leI (by decide) (by omega)] at q
          omega
        refine ⟨_, _, ch i - 48, numN ch (n - (i + 2)) (i + 2) 0, v, wy, txc n ch r, L, rfl, e1, rfl, by omega, h6, hL, rfl, fun wy' => ?_⟩
        have hK := hK wy'
        unfold rcR rcV at hK
        rw [if_neg h1', if_neg h2', if_neg h3', if_neg h1', if_neg h2', if_neg h3'] at hK
        exact hK
      · have h3' : ch i = 102 := (nI_eq (by omega) (by decide)).mp h3
        obtain ⟨h4, h5, h6⟩ : i + 1 < n ∧ 48 ≤ ch (i + 1) ∧ ch (i + 1) < 52 := by
          rcases hC with q | q | q | q
          · omega
          · omega
          · exact q.2
          · omega
        have hs1 : sgn ch n (i + 1) = nI (ch (i + 1)) := if_pos h4
        refine ⟨_, i + 1, n, ch, rfl, by rw [nI_add], by omega, hn, rfl, ?_⟩
        rw [hs1]
        refine ⟨_, vOw v, vHd v, vSt v, rfl, rfl, ?_⟩
        rw [pk_sub h5]
        have hK := hK wy
        unfold rcR rcV at hK
        rw [if_neg h1', if_neg h2', if_pos h3', if_neg h1', if_neg h2', if_pos h3'] at hK
        exact hK
    · have h2' : ch i = 104 := (nI_eq (by omega) (by decide)).mp h2
      refine ⟨vAd v, vGa v, rfl, rfl, ?_⟩
      have hK := hK wy
      unfold rcR rcV at hK
      rw [if_neg h1', if_pos h2', if_neg h1', if_pos h2'] at hK
      exact hK
  · have h1' : ch i = 109 := (nI_eq (by omega) (by decide)).mp h1
    refine ⟨v, wy, txc n ch r, L, rfl, hL, rfl, fun wy' => ?_⟩
    have hK := hK wy'
    unfold rcR rcV at hK
    rw [if_pos h1', if_pos h1'] at hK
    exact hK
-- checks
theorem nI_inR {x : Int32} {b : Nat} (hb : b < 2 ^ 31) (h1 : 0 ≤ x) (h2 : x < nI b) : ∃ n, n < b ∧ x = nI n := by
  have h3 : (0 : Int) ≤ x.toInt := by
    have := Int32.le_iff_toInt_le.mp h1
    simpa using this
  have h4 : x.toInt < (b : Int) := by
    have := Int32.lt_iff_toInt_lt.mp h2
    rwa [nI_toInt hb] at this
  refine ⟨x.toInt.toNat, by omega, ?_⟩
  apply Int32.toInt_inj.mp
  rw [nI_toInt (by omega)]
  omega
def sX6_requireIndex : gSX := fun av es K KX => ∃ x y b, av = [.int x, .int y] ∧ y = nI b ∧ b < 2 ^ 31 ∧ es = [] ∧ (∀ n, n < b → x = nI n → K none []) ∧ ((¬ ∃ n, n < b ∧ x = nI n) → KX "java/lang/IndexOutOfBoundsException" [])
def rmX6_requireIndex : Room := { frames := 6, cells := 1, slots := 6, locals := 90 }
def pX6_requireIndex (K : gK) (KX : gKX) : List (Nat × gO) := [(0, oF (oILoad 0)), (1, oIf_lt 9), (4, oILoad 0), (5, oILoad 1), (6, oICmp_lt 19), (9, oThrow KX "java/lang/IndexOutOfBoundsException" 1 6), (19, oRetV K 1 6)]
set_option maxRecDepth 100000 in
theorem kX6_requireIndex {X : gX} {l : Launch} (hM : gM X l cX6_requireIndex RX6 wsX6_requireIndex rmX6_requireIndex) {K : gK} (hE : gR X K 1 6 none) {KX : gKX} (hX : gRX X KX 1 6) (hl : l.stackTraces = false) (hnL : X.2.2.2.2.2.2.2.2.2.2.2.2.2.2.2.2 = 2) : okL X (pX6_requireIndex K KX) := by
  obtain ⟨p, l1, e, R, s, m, args, below, meth, c, D, cA, A, ag, ad0, Q, nL⟩ := X
  cases hnL
  refine ⟨ok_F (ok_iload_n hM 0 dX6_requireIndex_0 rfl),
    ok_if_lt hM 9 dX6_requireIndex_1 (by decide),
    ok_iload_n hM 0 dX6_requireIndex_4 rfl,
    ok_iload_n hM 1 dX6_requireIndex_5 rfl,
    ok_icmp_lt hM 19 dX6_requireIndex_6 (by decide),
    ok_throw hM hX hl (text := "no such tenant, way, set, position or slot") "java/lang/IndexOutOfBoundsException" ["java/lang/RuntimeException", "java/lang/Exception"] (by decide +kernel) (by decide +kernel) rfl (List.mem_of_getElem? (i := 1) rfl) (List.mem_of_getElem? (i := 2) rfl) (by decide +kernel) (by decide +kernel) gBad_1 (by decide +kernel) (by decide) (by decide) ⟨Nat.le_refl _, Nat.le_refl _⟩ dX6_requireIndex_9 dX6_requireIndex_12 dX6_requireIndex_13 dX6_requireIndex_15 dX6_requireIndex_18,
    ok_retV hM hE dX6_requireIndex_19,
    trivial⟩
set_option maxRecDepth 100000 in
theorem ctX6_requireIndex (l : Launch) (hl : l.stackTraces = false) : CtX l yX6_requireIndex wsX6_requireIndex rmX6_requireIndex 1 6 sX6_requireIndex := by
  refine ctX_of (own := RX6) (cc := cX6_requireIndex) (maxL := 2) (ret := none) (by decide) rfl rfl (by rintro _ _ _ _ ⟨x, y, b, rfl, rfl, hb, rfl, hK, hKX⟩; exact Nat.le_of_ble_eq_true rfl) ?_
  intro X av es K KX hM hE hX hnL hsp
  obtain ⟨x, y, b, rfl, rfl, hb, rfl, hK, hKX⟩ := hsp
  have hf := kX6_requireIndex hM hE hX hl hnL
  refine wr_ok hf cut_nil 5 0 _ _ _ _ _ ?_
  refine ⟨fun h1 => ?_, fun h1 => ?_⟩
  · refine hKX (fun ⟨n, hn, q⟩ => ?_)
    rw [q] at h1
    exact absurd h1 (nI_pos (by omega))
  · have h1' : 0 ≤ x := by first | exact h1 | exact Int32.not_lt.mp h1
    refine ⟨fun h2 => ?_, fun h2 => ?_⟩
    · have h2' : x < nI b := by first | exact h2 | exact Int32.not_le.mp h2
      obtain ⟨n, hn, q⟩ := nI_inR hb h1' h2'
      exact hK n hn q
    · have h2' : ¬ x < nI b := by first | exact h2 | exact Int32.not_lt.mpr h2
      refine hKX (fun ⟨n, hn, q⟩ => ?_)
      rw [q, nI_ltI (by omega) hb] at h2'
      omega
def sX6_requireTenant : gSX := fun av es K KX => ∃ x, av = [.int x] ∧ es = [] ∧ (∀ n, n < 4 → x = nI n → K none []) ∧ ((¬ ∃ n, n < 4 ∧ x = nI n) → KX "java/lang/IndexOutOfBoundsException" [])
def rmX6_requireTenant : Room := { frames := 7, cells := 1, slots := 6, locals := 111 }
def pX6_requireTenant (K : gK) (KX : gKX) : List (Nat × gO) := [(0, oF (oILoad 0)), (1, oConst (nI 4)), (2, oCallSX 1 6 1 6 1 6 2 [] sX6_requireIndex KX), (5, oF (oRetV K 1 6))]
set_option maxRecDepth 100000 in
theorem kX6_requireTenant {X : gX} {l : Launch} (hM : gM X l cX6_requireTenant RX6 wsX6_requireTenant rmX6_requireTenant) {K : gK} (hE : gR X K 1 6 none) {KX : gKX} (hX : gRX X KX 1 6) (hl : l.stackTraces = false) (hnL : X.2.2.2.2.2.2.2.2.2.2.2.2.2.2.2.2 = 1) : okL X (pX6_requireTenant K KX) := by
  obtain ⟨p, l1, e, R, s, m, args, below, meth, c, D, cA, A, ag, ad0, Q, nL⟩ := X
  cases hnL
  refine ⟨ok_F (ok_iload_n hM 0 dX6_requireTenant_0 rfl),
    ok_iconst hM dX6_requireTenant_1 rfl,
    ok_callSX hM hX [] (ctX6_requireIndex l hl) rfl gX6_requireTenant_X6_requireIndex rfl rfl rfl (by decide +kernel) (by decide) dX6_requireTenant_2,
    ok_F (ok_retV hM hE dX6_requireTenant_5),
    trivial⟩
set_option maxRecDepth 100000 in
theorem ctX6_requireTenant (l : Launch) (hl : l.stackTraces = false) : CtX l yX6_requireTenant wsX6_requireTenant rmX6_requireTenant 1 6 sX6_requireTenant := by
  refine ctX_of (own := RX6) (cc := cX6_requireTenant) (maxL := 1) (ret := none) (by decide) rfl rfl (by rintro _ _ _ _ ⟨x, rfl, rfl, hK, hKX⟩; exact Nat.le_of_ble_eq_true rfl) ?_
  intro X av es K KX hM hE hX hnL hsp
  obtain ⟨x, rfl, rfl, hK, hKX⟩ := hsp
  have hf := kX6_requireTenant hM hE hX hl hnL
  refine wr_ok hf cut_nil 5 0 _ _ _ _ _ ?_
  exact ⟨_, _, 4, rfl, rfl, by decide, rfl, fun n hn q => hK n hn q, fun q => hKX q⟩
def sX6_requireArgument : gSX := fun av es K KX => ∃ x y z lo hi, av = [.int x, .int y, .int z] ∧ y = nI lo ∧ z = nI hi ∧ lo ≤ hi ∧ hi < 2 ^ 31 - 1 ∧ es = [] ∧ (∀ n, lo ≤ n → n ≤ hi → x = nI n → K none []) ∧ ((¬ ∃ n, lo ≤ n ∧ n ≤ hi ∧ x = nI n) → KX "java/lang/IllegalArgumentException" [])
def rmX6_requireArgument : Room := { frames := 6, cells := 1, slots := 6, locals := 90 }
def pX6_requireArgument (K : gK) (KX : gKX) : List (Nat × gO) := [(0, oF (oILoad 0)), (1, oILoad 1), (2, oICmp_lt 10), (5, oILoad 0), (6, oILoad 2), (7, oICmp_le 20), (10, oThrow KX "java/lang/IllegalArgumentException" 1 6), (20, oRetV K 1 6)]
set_option maxRecDepth 100000 in
theorem kX6_requireArgument {X : gX} {l : Launch} (hM : gM X l cX6_requireArgument RX6 wsX6_requireArgument rmX6_requireArgument) {K : gK} (hE : gR X K 1 6 none) {KX : gKX} (hX : gRX X KX 1 6) (hl : l.stackTraces = false) (hnL : X.2.2.2.2.2.2.2.2.2.2.2.2.2.2.2.2 = 3) : okL X (pX6_requireArgument K KX) := by
  obtain ⟨p, l1, e, R, s, m, args, below, meth, c, D, cA, A, ag, ad0, Q, nL⟩ := X
  cases hnL
  refine ⟨ok_F (ok_iload_n hM 0 dX6_requireArgument_0 rfl),
    ok_iload_n hM 1 dX6_requireArgument_1 rfl,
    ok_icmp_lt hM 10 dX6_requireArgument_2 (by decide),
    ok_iload_n hM 0 dX6_requireArgument_5 rfl,
    ok_iload_n hM 2 dX6_requireArgument_6 rfl,
    ok_icmp_le hM 20 dX6_requireArgument_7 (by decide),
    ok_throw hM hX hl (text := "the number is out of range") "java/lang/IllegalArgumentException" ["java/lang/RuntimeException", "java/lang/Exception"] (by decide +kernel) (by decide +kernel) rfl (List.mem_of_getElem? (i := 1) rfl) (List.mem_of_getElem? (i := 2) rfl) (by decide +kernel) (by decide +kernel) gBad_2 (by decide +kernel) (by decide) (by decide) ⟨Nat.le_refl _, Nat.le_refl _⟩ dX6_requireArgument_10 dX6_requireArgument_13 dX6_requireArgument_14 dX6_requireArgument_16 dX6_requireArgument_19,
    ok_retV hM hE dX6_requireArgument_20,
    trivial⟩
set_option maxRecDepth 100000 in
theorem ctX6_requireArgument (l : Launch) (hl : l.stackTraces = false) : CtX l yX6_requireArgument wsX6_requireArgument rmX6_requireArgument 1 6 sX6_requireArgument := by
  refine ctX_of (own := RX6) (cc := cX6_requireArgument) (maxL := 3) (ret := none) (by decide) rfl rfl (by rintro _ _ _ _ ⟨x, y, z, lo, hi, rfl, rfl, rfl, hlh, hhi, rfl, hK, hKX⟩; exact Nat.le_of_ble_eq_true rfl) ?_
  intro X av es K KX hM hE hX hnL hsp
  obtain ⟨x, y, z, lo, hi, rfl, rfl, rfl, hlh, hhi, rfl, hK, hKX⟩ := hsp
  have hf := kX6_requireArgument hM hE hX hl hnL
  refine wr_ok hf cut_nil 5 0 _ _ _ _ _ ?_
  refine ⟨fun h1 => ?_, fun h1 => ?_⟩
  · have h1' : x < nI lo := by first | exact h1 | exact Int32.not_le.mp h1
    refine hKX (fun ⟨n, hn, hn2, q⟩ => ?_)
    rw [q, nI_ltI (by omega) (by omega)] at h1'
    omega
  · have h1' : nI lo ≤ x := by first | exact h1 | exact Int32.not_lt.mp h1
    have h0 : 0 ≤ x := Int32.le_trans (nI_pos' (by omega)) h1'
    refine ⟨fun h2 => ?_, fun h2 => ?_⟩
    · have h2' : x ≤ nI hi := by first | exact h2 | exact Int32.not_lt.mp h2
      have h3 : x < nI (hi + 1) := Int32.lt_of_le_of_lt h2' ((nI_ltI (by omega) (by omega)).mpr (by omega))
      obtain ⟨n, hn, q⟩ := nI_inR (by omega) h0 h3
      have h4 : lo ≤ n := by
        rw [q, nI_leI (by omega) (by omega)] at h1'
        exact h1'
      exact hK n h4 (by omega) q
    · have h2' : ¬ x ≤ nI hi := by first | exact h2 | exact Int32.not_le.mpr h2
      refine hKX (fun ⟨n, hn, hn2, q⟩ => ?_)
      rw [q, nI_leI (by omega) (by omega)] at h2'
      omega
end MQ2

/-! PartitionedCache: streams and runs. -/
section MQ7
theorem mvV_keep (L : Nat → Nat) (v : gV) : vLe (mvV L v) = vLe v := rfl
theorem epV_keep (L : Nat → Nat) (v : gV) : vLe (epV L v) = vLe v := by
  unfold epV
  split <;> rfl
theorem acV_keep (L : Nat → Nat) (v : gV) (t a : Nat) : vLe (acV L v t a) = vLe v := by
  unfold acV
  rw [epV_keep, acB_keep]
def stS (L : Nat → Nat) (v : gV) (t a z : Nat) : Nat → gV
  | 0 => v
  | i + 1 => acV L (stS L v t a z i) t ((a + i * z) % 256)
def stH (L : Nat → Nat) (v : gV) (t a z : Nat) : Nat → Nat
  | 0 => 0
  | i + 1 => if acR (stS L v t a z i) t ((a + i * z) % 256) = 1 then stH L v t a z i + 1 else stH L v t a z i
theorem stS_keep (L : Nat → Nat) (v : gV) (t a z : Nat) : ∀ i, vLe (stS L v t a z i) = vLe v
  | 0 => rfl
  | i + 1 => by
    unfold stS
    rw [acV_keep]
    exact stS_keep L v t a z i
theorem stH_le (L : Nat → Nat) (v : gV) (t a z : Nat) : ∀ i, stH L v t a z i ≤ i
  | 0 => Nat.le_refl _
  | i + 1 => by
    have := stH_le L v t a z i
    unfold stH
    split <;> omega
def sX6_stream : gSX := fun av es K KX => ∃ x y z u v wy n ch H o s r L, av = [.ref 0, .int x, .int y, .int z, .int u] ∧ o < 6 ∧ s ≤ 6 ∧ (∀ t, t < 4 → vLe v t = nI (L t) ∧ L t ≤ 2) ∧ es = wX v wy n ch H o s r ∧ (∀ t a c m, t < 4 → a ≤ 255 → 1 ≤ c → c ≤ 64 → 1 ≤ m → m ≤ 40 → x = nI t → y = nI a → z = nI c → u = nI m → ∀ wy', K (some (.int (nI (stH L v t a c m)))) (wX (stS L v t a c m) wy' n ch (psH H o s v) (psO o s) (psS s) r)) ∧ (¬ inI x 4 → KX "java/lang/IndexOutOfBoundsException" (wX v wy n ch H o s r)) ∧ (inI x 4 → ¬ inA y 0 255 → KX "java/lang/IllegalArgumentException" (wX v wy n ch H o s r)) ∧ (inI x 4 → inA y 0 255 → ¬ inA z 1 64 → KX "java/lang/IllegalArgumentException" (wX v wy n ch H o s r)) ∧ (inI x 4 → inA y 0 255 → inA z 1 64 → ¬ inA u 1 40 → KX "java/lang/IllegalArgumentException" (wX v wy n ch H o s r))
def rmX6_stream : Room := { frames := 8, cells := 4, slots := 24, locals := 131 }
def pX6_stream (K : gK) (KX : gKX) : List (Nat × gO) := [(0, oFR 17 (oILoad 1)), (1, oCallSX 4 24 4 24 1 6 1 [] sX6_requireTenant KX), (4, oFR 17 (oILoad 2)), (5, oConst (nI 0)), (6, oConst (nI 255)), (9, oCallSX 4 24 4 24 1 6 3 [] sX6_requireArgument KX), (12, oFR 17 (oILoad 3)), (13, oConst (nI 1)), (14, oConst (nI 64)), (16, oCallSX 4 24 4 24 1 6 3 [] sX6_requireArgument KX), (19, oFR 17 (oILoad 4)), (21, oConst (nI 1)), (22, oConst (nI 40)), (24, oCallSX 4 24 4 24 1 6 3 [] sX6_requireArgument KX), (27, oFR 17 (oALoad 0)), (28, oGet 6 2), (31, oALoad 0), (32, oGet 6 0), (35, oPushX 4 24), (38, oConst (nI 0)), (39, oIStore 7 5), (41, oConst (nI 0)), (42, oFR 17 (oIStore 7 6)), (44, oFR 17 (oILoad 6)), (46, oILoad 4), (48, oICmp_ge 79), (51, oALoad 0), (52, oILoad 1), (53, oILoad 2), (54, oILoad 6), (56, oILoad 3), (57, oMul), (58, oAdd), (59, oConst (nI 256)), (62, oRem), (63, oCallV0 4 24 6 2 sX6_makeAccess), (66, oConst (nI 1)), (67, oFR 17 (oICmp_ne 73)), (70, oIInc 7 5 (nI 1)), (73, oFR 17 (oIInc 7 6 (nI 1))), (76, oGoto 44), (79, oFR 17 (oILoad 5)), (81, oRet K 4 24)]
set_option maxRecDepth 100000 in
theorem kX6_stream {X : gX} {l : Launch} (hM : gM X l cX6_stream RX6 wsX6_stream rmX6_stream) {K : gK} (hE : gR X K 4 24 (some .int)) {KX : gKX} (hX : gRX X KX 4 24) (hl : l.stackTraces = false) (hnL : X.2.2.2.2.2.2.2.2.2.2.2.2.2.2.2.2 = 7) : okL X (pX6_stream K KX) := by
  obtain ⟨p, l1, e, R, s, m, args, below, meth, c, D, cA, A, ag, ad0, Q, nL⟩ := X
  cases hnL
  refine ⟨ok_FR (ok_iload_n hM 1 dX6_stream_0 rfl),
    ok_callSX hM hX [] (ctX6_requireTenant l hl) rfl gX6_stream_X6_requireTenant rfl rfl rfl (by decide +kernel) (by decide) dX6_stream_1,
    ok_FR (ok_iload_n hM 2 dX6_stream_4 rfl),
    ok_iconst hM dX6_stream_5 rfl,
    ok_sipush hM dX6_stream_6 rfl,
    ok_callSX hM hX [] (ctX6_requireArgument l hl) rfl gX6_stream_X6_requireArgument rfl rfl rfl (by decide +kernel) (by decide) dX6_stream_9,
    ok_FR (ok_iload_n hM 3 dX6_stream_12 rfl),
    ok_iconst hM dX6_stream_13 rfl,
    ok_bipush hM dX6_stream_14 rfl,
    ok_callSX hM hX [] (ctX6_requireArgument l hl) rfl gX6_stream_X6_requireArgument rfl rfl rfl (by decide +kernel) (by decide) dX6_stream_16,
    ok_FR (ok_iload hM 4 dX6_stream_19),
    ok_iconst hM dX6_stream_21 rfl,
    ok_bipush hM dX6_stream_22 rfl,
    ok_callSX hM hX [] (ctX6_requireArgument l hl) rfl gX6_stream_X6_requireArgument rfl rfl rfl (by decide +kernel) (by decide) dX6_stream_24,
    ok_FR (ok_aload_n hM 0 dX6_stream_27 rfl),
    ok_get (C := RX6) (T := TX6) (Nf := 6) hM (fun _ h => List.mem_cons_of_mem _ (List.mem_append_left _ (List.mem_append_left _ (List.mem_append_left _ (List.mem_append_left _ (List.mem_append_left _ (List.mem_append_left _ (List.mem_append_left _ (List.mem_append_right _ h))))))))) rfl 2 (by decide) (List.mem_of_getElem? (i := 1) rfl) rfl dX6_stream_28,
    ok_aload_n hM 0 dX6_stream_31 rfl,
    ok_get (C := RX6) (T := TX6) (Nf := 6) hM (fun _ h => List.mem_cons_of_mem _ (List.mem_append_left _ (List.mem_append_left _ (List.mem_append_left _ (List.mem_append_left _ (List.mem_append_left _ (List.mem_append_left _ (List.mem_append_left _ (List.mem_append_right _ h))))))))) rfl 0 (by decide) (List.mem_of_getElem? (i := 2) rfl) rfl dX6_stream_32,
    ok_pushX (ok_callV hM idH (ctX1_push l) rfl rfl gX6_stream_X1_push rfl rfl rfl (by decide +kernel) (by decide) dX6_stream_35),
    ok_iconst hM dX6_stream_38 rfl,
    ok_istore hM 5 dX6_stream_39,
    ok_iconst hM dX6_stream_41 rfl,
    ok_FR (ok_istore hM 6 dX6_stream_42),
    ok_FR (ok_iload hM 6 dX6_stream_44),
    ok_iload hM 4 dX6_stream_46,
    ok_icmp_ge hM 79 dX6_stream_48 (by decide),
    ok_aload_n hM 0 dX6_stream_51 rfl,
    ok_iload_n hM 1 dX6_stream_52 rfl,
    ok_iload_n hM 2 dX6_stream_53 rfl,
    ok_iload hM 6 dX6_stream_54,
    ok_iload_n hM 3 dX6_stream_56 rfl,
    ok_imul hM dX6_stream_57,
    ok_iadd hM dX6_stream_58,
    ok_sipush hM dX6_stream_59 rfl,
    ok_irem hM dX6_stream_62,
    ok_callV0 hM (ctX6_makeAccess l) rfl gX6_stream_X6_makeAccess rfl rfl rfl (by decide +kernel) (by decide) dX6_stream_63,
    ok_iconst hM dX6_stream_66 rfl,
    ok_FR (ok_icmp_ne hM 73 dX6_stream_67 (by decide)),
    ok_iinc hM 5 dX6_stream_70 rfl,
    ok_FR (ok_iinc hM 6 dX6_stream_73 rfl),
    ok_goto hM 44 dX6_stream_76 (by decide),
    ok_FR (ok_iload hM 5 dX6_stream_79),
    ok_ret hM hE dX6_stream_81,
    trivial⟩
set_option maxRecDepth 100000 in
theorem ctX6_stream (l : Launch) (hl : l.stackTraces = false) : CtX l yX6_stream wsX6_stream rmX6_stream 4 24 sX6_stream := by
  refine ctX_of (own := RX6) (cc := cX6_stream) (maxL := 7) (ret := (some .int)) (by decide) rfl rfl (by rintro _ _ _ _ ⟨x, y, z, u, v, wy, n, ch, H, o, s, r, L, rfl, ho, hs, hL, rfl, hK, hX0, hX1, hX2, hX3⟩; exact Nat.le_of_ble_eq_true rfl) ?_
  intro X av es K KX hM hE hX hnL hsp
  obtain ⟨x, y, z, u, v, wy, n, ch, H, o, s, r, L, rfl, ho, hs, hL, rfl, hK, hX0, hX1, hX2, hX3⟩ := hsp
  have hf := kX6_stream hM hE hX hl hnL
  refine g_with (X := X) 44 [0, 1, 2, 3, 4, 5, 6] (fun μ vs es k n9 => ∃ (i t a c m : Nat) (wy' : Nat → Int32), μ = 40 - i ∧ i ≤ m ∧ t < 4 ∧ a ≤ 255 ∧ 1 ≤ c ∧ c ≤ 64 ∧ m ≤ 40 ∧ (∀ wy', K (some (.int (nI (stH L v t a c m)))) (wX (stS L v t a c m) wy' n ch (psH H o s v) (psO o s) (psS s) r)) ∧ vs = [.ref 0, .int (nI t), .int (nI a), .int (nI c), .int (nI m), .int (nI (stH L v t a c i)), .int (nI i)] ∧ es = wX (stS L v t a c i) wy' n ch (psH H o s v) (psO o s) (psS s) r ∧ k = 4 ∧ n9 = 24) cut_nil (fun μ hc vs es k n9 hI => ?_) (fun hcut => ?_)
  · obtain ⟨i, t, a, c, m, wy2, rfl, hi, ht, ha, hc0, hc1, hm, hK, rfl, rfl, rfl, rfl⟩ := hI
    refine g_go hf hc 5 ?_
    refine ⟨fun h2 => ?_, fun h2 => ?_⟩
    · have h4 : i = m := by
        rw [nI_leI (by omega) (by omega)] at h2
        omega
      subst h4
      exact hK wy2
    · have h4 : i < m := by
        rw [nI_leI (by omega) (by omega)] at h2
        omega
      have hic : i * c ≤ 40 * 64 := Nat.mul_le_mul (by omega) hc1
      refine ⟨by decide, ?_⟩
      have hL2 : ∀ t', t' < 4 → vLe (stS L v t a c i) t' = nI (L t') ∧ L t' ≤ 2 := fun t' ht' => by
        rw [stS_keep]
        exact hL t' ht'
      have hr2 : acR (stS L v t a c i) t ((a + i * c) % 256) ≤ 2 := rsl_le _ _ _ _
      have hl2 := stH_le L v t a c i
      refine ⟨_, _, t, (a + i * c) % 256, stS L v t a c i, wy2, _, L, rfl, rfl, by rw [pk_mul, nI_add]; exact pk_rem (by omega) (by decide) (by decide), ht, by omega, hL2, rfl, fun wy3 => ?_⟩
      have e9 : stS L v t a c (i + 1) = acV L (stS L v t a c i) t ((a + i * c) % 256) := rfl
      rw [← e9]
      refine ⟨fun h5 => ?_, fun h5 => ?_⟩
      · have h6 : ¬ acR (stS L v t a c i) t ((a + i * c) % 256) = 1 := fun q => h5 (by rw [q])
        exact ⟨40 - (i + 1), by omega, i + 1, t, a, c, m, wy3, rfl, by omega, ht, ha, hc0, hc1, hm, hK, by rw [nI_add]; simp only [stH, if_neg h6], rfl, rfl, rfl⟩
      · have h6 : acR (stS L v t a c i) t ((a + i * c) % 256) = 1 := (nI_eq (by omega) (by decide)).mp h5
        exact ⟨40 - (i + 1), by omega, i + 1, t, a, c, m, wy3, rfl, by omega, ht, ha, hc0, hc1, hm, hK, by rw [nI_add, nI_add]; simp only [stH, if_pos h6], rfl, rfl, rfl⟩
  · refine wr_ok hf hcut 5 0 _ _ _ _ _ ?_
    refine ⟨_, rfl, rfl, fun t ht et => ?_, fun q => ?_⟩
    · subst et
      refine ⟨_, _, _, 0, 255, rfl, rfl, rfl, by decide, by decide, rfl, fun a ha0 ha ea => ?_, fun q => ?_⟩
      · subst ea
        refine ⟨_, _, _, 1, 64, rfl, rfl, rfl, by decide, by decide, rfl, fun c hc0 hc ec => ?_, fun q => ?_⟩
        · subst ec
          refine ⟨_, _, _, 1, 40, rfl, rfl, rfl, by decide, by decide, rfl, fun m hm0 hm em => ?_, fun q => ?_⟩
          · subst em
            refine ⟨v, wy, n, ch, H, o, s, r, ho, hs, rfl, ?_⟩
            exact ⟨40, 0, t, a, c, m, wy, rfl, by omega, ht, ha, hc0, hc, hm, hK t a c m ht ha hc0 hc hm0 hm rfl rfl rfl rfl, rfl, rfl, rfl, rfl⟩
          · exact hX3 ⟨t, ht, rfl⟩ ⟨a, ha0, ha, rfl⟩ ⟨c, hc0, hc, rfl⟩ q
        · exact hX2 ⟨t, ht, rfl⟩ ⟨a, ha0, ha, rfl⟩ q
      · exact hX1 ⟨t, ht, rfl⟩ q
    · exact hX0  q
def rtS (L : Nat → Nat) (n : Nat) (ch : Nat → Nat) (v : gV) : Nat → gV
  | 0 => v
  | i + 1 => if i = 0 ∨ ch (i - 1) = 59 then rcV L n ch i (rtS L n ch v i) else rtS L n ch v i
def rtH (L : Nat → Nat) (n : Nat) (ch : Nat → Nat) (v : gV) : Nat → Nat
  | 0 => 0
  | i + 1 => if (i = 0 ∨ ch (i - 1) = 59) ∧ rcR n ch i (rtS L n ch v i) = nI 1 then rtH L n ch v i + 1 else rtH L n ch v i
theorem rcV_keep (L : Nat → Nat) (n : Nat) (ch : Nat → Nat) (i : Nat) (v : gV) : vLe (rcV L n ch i v) = vLe v := by
  unfold rcV
  split
  · rfl
  · split
    · rfl
    · split
      · rfl
      · exact acV_keep L v _ _
theorem rtS_keep (L : Nat → Nat) (n : Nat) (ch : Nat → Nat) (v : gV) : ∀ i, vLe (rtS L n ch v i) = vLe v
  | 0 => rfl
  | i + 1 => by
    unfold rtS
    split
    · exact (rcV_keep L n ch i _).trans (rtS_keep L n ch v i)
    · exact rtS_keep L n ch v i
theorem feR_le {ch : Nat → Nat} {n : Nat} : ∀ {f i st nu p : Nat}, i + f ≤ n → feR ch n f i st nu = some p → p ≤ n
  | 0, i, st, nu, p, _, h => by
    unfold feR at h
    split at h
    · cases h
    · cases h
      omega
  | f + 1, i, st, nu, p, hi, h => by
    unfold feR at h
    split at h
    · cases h
      omega
    · exact feR_le (by omega) h
theorem fErr_lt {ch : Nat → Nat} {n p : Nat} (h : fErr ch n = some p) : p ≤ n := feR_le (by omega) h
theorem rtH_le (L : Nat → Nat) (n : Nat) (ch : Nat → Nat) (v : gV) : ∀ i, rtH L n ch v i ≤ i
  | 0 => Nat.le_refl _
  | i + 1 => by
    have := rtH_le L n ch v i
    unfold rtH
    split <;> omega
def sX6_runText : gSX := fun av es K KX => ∃ v wy n ch H o s r L, av = [.ref 0] ∧ o < 6 ∧ s ≤ 6 ∧ n ≤ 80 ∧ (∀ j, j < n → ch j < 1000) ∧ (fErr ch n = none → ∀ i, i < n → (i = 0 ∨ ch (i - 1) = 59) → rcC n ch i) ∧ (∀ t, t < 4 → vLe v t = nI (L t) ∧ L t ≤ 2) ∧ es = wX v wy n ch H o s r ∧ (fErr ch n = none → ∀ wy', K (some (.int (nI (rtH L n ch v n)))) (wX (rtS L n ch v n) wy' n ch (psH H o s v) (psO o s) (psS s) r)) ∧ (¬ fErr ch n = none → KX "java/lang/IllegalStateException" es)
def rmX6_runText : Room := { frames := 6, cells := 1, slots := 6, locals := 143 }
def pX6_runText (K : gK) (KX : gKX) : List (Nat × gO) := [(0, oFR 17 (oALoad 0)), (1, oGet 6 3), (4, oCallVR 17 1 6 0 0 [13,14] sX0_firstError), (7, oConst (-1)), (8, oFR 17 (oICmp_eq 21)), (11, oThrow KX "java/lang/IllegalStateException" 1 6), (21, oALoad 0), (22, oGet 6 2), (25, oALoad 0), (26, oGet 6 0), (29, oPushX 1 6), (32, oConst (nI 0)), (33, oIStore 3 1), (34, oConst (nI 0)), (35, oFR 17 (oIStore 3 2)), (36, oFR 17 (oILoad 2)), (37, oALoad 0), (38, oGet 6 3), (41, oGet 0 1), (44, oICmp_ge 76), (47, oALoad 0), (48, oGet 6 3), (51, oILoad 2), (52, oCallVR 17 1 6 0 1 [13,14] sX0_commandBeginsAt), (55, oFR 17 (oIf_eq 70)), (58, oALoad 0), (59, oILoad 2), (60, oCallV0 1 6 6 1 sX6_runCommand), (63, oConst (nI 1)), (64, oFR 17 (oICmp_ne 70)), (67, oIInc 3 1 (nI 1)), (70, oFR 17 (oIInc 3 2 (nI 1))), (73, oGoto 36), (76, oFR 17 (oILoad 1)), (77, oRet K 1 6)]
set_option maxRecDepth 100000 in
theorem kX6_runText {X : gX} {l : Launch} (hM : gM X l cX6_runText RX6 wsX6_runText rmX6_runText) {K : gK} (hE : gR X K 1 6 (some .int)) {KX : gKX} (hX : gRX X KX 1 6) (hl : l.stackTraces = false) (hnL : X.2.2.2.2.2.2.2.2.2.2.2.2.2.2.2.2 = 3) : okL X (pX6_runText K KX) := by
  obtain ⟨p, l1, e, R, s, m, args, below, meth, c, D, cA, A, ag, ad0, Q, nL⟩ := X
  cases hnL
  refine ⟨ok_FR (ok_aload_n hM 0 dX6_runText_0 rfl),
    ok_get (C := RX6) (T := TX6) (Nf := 6) hM (fun _ h => List.mem_cons_of_mem _ (List.mem_append_left _ (List.mem_append_left _ (List.mem_append_left _ (List.mem_append_left _ (List.mem_append_left _ (List.mem_append_left _ (List.mem_append_left _ (List.mem_append_right _ h))))))))) rfl 3 (by decide) (List.mem_of_getElem? (i := 3) rfl) rfl dX6_runText_1,
    ok_R (ok_callV hM [13,14] (ctX0_firstError l) rfl rfl gX6_runText_X0_firstError rfl rfl rfl (by decide +kernel) (by decide) dX6_runText_4),
    ok_iconst hM dX6_runText_7 rfl,
    ok_FR (ok_icmp_eq hM 21 dX6_runText_8 (by decide)),
    ok_throw hM hX hl (text := "the text is not valid") "java/lang/IllegalStateException" ["java/lang/RuntimeException", "java/lang/Exception"] (by decide +kernel) (by decide +kernel) rfl (List.mem_of_getElem? (i := 1) rfl) (List.mem_of_getElem? (i := 2) rfl) (by decide +kernel) (by decide +kernel) gBad_3 (by decide +kernel) (by decide) (by decide) ⟨Nat.le_refl _, Nat.le_refl _⟩ dX6_runText_11 dX6_runText_14 dX6_runText_15 dX6_runText_17 dX6_runText_20,
    ok_aload_n hM 0 dX6_runText_21 rfl,
    ok_get (C := RX6) (T := TX6) (Nf := 6) hM (fun _ h => List.mem_cons_of_mem _ (List.mem_append_left _ (List.mem_append_left _ (List.mem_append_left _ (List.mem_append_left _ (List.mem_append_left _ (List.mem_append_left _ (List.mem_append_left _ (List.mem_append_right _ h))))))))) rfl 2 (by decide) (List.mem_of_getElem? (i := 4) rfl) rfl dX6_runText_22,
    ok_aload_n hM 0 dX6_runText_25 rfl,
    ok_get (C := RX6) (T := TX6) (Nf := 6) hM (fun _ h => List.mem_cons_of_mem _ (List.mem_append_left _ (List.mem_append_left _ (List.mem_append_left _ (List.mem_append_left _ (List.mem_append_left _ (List.mem_append_left _ (List.mem_append_left _ (List.mem_append_right _ h))))))))) rfl 0 (by decide) (List.mem_of_getElem? (i := 5) rfl) rfl dX6_runText_26,
    ok_pushX (ok_callV hM idH (ctX1_push l) rfl rfl gX6_runText_X1_push rfl rfl rfl (by decide +kernel) (by decide) dX6_runText_29),
    ok_iconst hM dX6_runText_32 rfl,
    ok_istore_n hM 1 dX6_runText_33 rfl,
    ok_iconst hM dX6_runText_34 rfl,
    ok_FR (ok_istore_n hM 2 dX6_runText_35 rfl),
    ok_FR (ok_iload_n hM 2 dX6_runText_36 rfl),
    ok_aload_n hM 0 dX6_runText_37 rfl,
    ok_get (C := RX6) (T := TX6) (Nf := 6) hM (fun _ h => List.mem_cons_of_mem _ (List.mem_append_left _ (List.mem_append_left _ (List.mem_append_left _ (List.mem_append_left _ (List.mem_append_left _ (List.mem_append_left _ (List.mem_append_left _ (List.mem_append_right _ h))))))))) rfl 3 (by decide) (List.mem_of_getElem? (i := 3) rfl) rfl dX6_runText_38,
    ok_get (C := RX0) (T := TX0) (Nf := 2) hM (fun _ h => List.mem_cons_of_mem _ (List.mem_append_left _ (List.mem_append_left _ (List.mem_append_left _ (List.mem_append_left _ (List.mem_append_left _ (List.mem_append_left _ (List.mem_append_right _ h)))))))) rfl 1 (by decide) (List.mem_of_getElem? (i := 6) rfl) rfl dX6_runText_41,
    ok_icmp_ge hM 76 dX6_runText_44 (by decide),
    ok_aload_n hM 0 dX6_runText_47 rfl,
    ok_get (C := RX6) (T := TX6) (Nf := 6) hM (fun _ h => List.mem_cons_of_mem _ (List.mem_append_left _ (List.mem_append_left _ (List.mem_append_left _ (List.mem_append_left _ (List.mem_append_left _ (List.mem_append_left _ (List.mem_append_left _ (List.mem_append_right _ h))))))))) rfl 3 (by decide) (List.mem_of_getElem? (i := 3) rfl) rfl dX6_runText_48,
    ok_iload_n hM 2 dX6_runText_51 rfl,
    ok_R (ok_callV hM [13,14] (ctX0_commandBeginsAt l) rfl rfl gX6_runText_X0_commandBeginsAt rfl rfl rfl (by decide +kernel) (by decide) dX6_runText_52),
    ok_FR (ok_if_eq hM 70 dX6_runText_55 (by decide)),
    ok_aload_n hM 0 dX6_runText_58 rfl,
    ok_iload_n hM 2 dX6_runText_59 rfl,
    ok_callV0 hM (ctX6_runCommand l) rfl gX6_runText_X6_runCommand rfl rfl rfl (by decide +kernel) (by decide) dX6_runText_60,
    ok_iconst hM dX6_runText_63 rfl,
    ok_FR (ok_icmp_ne hM 70 dX6_runText_64 (by decide)),
    ok_iinc hM 1 dX6_runText_67 rfl,
    ok_FR (ok_iinc hM 2 dX6_runText_70 rfl),
    ok_goto hM 36 dX6_runText_73 (by decide),
    ok_FR (ok_iload_n hM 1 dX6_runText_76 rfl),
    ok_ret hM hE dX6_runText_77,
    trivial⟩
set_option maxRecDepth 100000 in
theorem ctX6_runText (l : Launch) (hl : l.stackTraces = false) : CtX l yX6_runText wsX6_runText rmX6_runText 1 6 sX6_runText := by
  refine ctX_of (own := RX6) (cc := cX6_runText) (maxL := 3) (ret := (some .int)) (by decide) rfl rfl (by rintro _ _ _ _ ⟨v, wy, n, ch, H, o, s, r, L, rfl, ho, hs, hn, hch, hC, hL, rfl, hK, hX0⟩; exact Nat.le_of_ble_eq_true rfl) ?_
  intro X av es K KX hM hE hX hnL hsp
  obtain ⟨v, wy, n, ch, H, o, s, r, L, rfl, ho, hs, hn, hch, hC, hL, rfl, hK, hX0⟩ := hsp
  have hf := kX6_runText hM hE hX hl hnL
  have hno : oI (fErr ch n) = -1 ↔ fErr ch n = none := oI_ne (fun p hp => by have := fErr_lt hp; omega)
  refine g_with (X := X) 36 [0, 1, 2] (fun μ vs es k n9 => ∃ (i : Nat) (wy' : Nat → Int32), fErr ch n = none ∧ μ = 80 - i ∧ i ≤ n ∧ vs = [.ref 0, .int (nI (rtH L n ch v i)), .int (nI i)] ∧ es = wX (rtS L n ch v i) wy' n ch (psH H o s v) (psO o s) (psS s) r ∧ k = 0 ∧ n9 = 0) cut_nil (fun μ hc vs es k n9 hI => ?_) (fun hc => ?_)
  · obtain ⟨i, wy2, hf0, rfl, hi, rfl, rfl, rfl, rfl⟩ := hI
    refine g_go hf hc 5 ?_
    refine ⟨fun h2 => ?_, fun h2 => ?_⟩
    · have h4 : i = n := by
        rw [nI_leI (by omega) (by omega)] at h2
        omega
      subst h4
      exact hK hf0 wy2
    · have h4 : i < n := by
        rw [nI_leI (by omega) (by omega)] at h2
        omega
      have hb : (bI (decide (i = 0) || decide (sgn ch n (i - 1) = nI 59)) = 0) ↔ ¬ (i = 0 ∨ ch (i - 1) = 59) := by
        rw [bI_0]
        have e1 : sgn ch n (i - 1) = nI (ch (i - 1)) := if_pos (by omega)
        have e2 : nI (ch (i - 1)) = nI 59 ↔ ch (i - 1) = 59 := nI_eq (by have := hch (i - 1) (by omega); omega) (by decide)
        rw [e1]
        simp [e2]
      have hl2 := rtH_le L n ch v i
      refine ⟨_, i, n, ch, rfl, rfl, by omega, hn, rfl, ?_⟩
      refine ⟨fun h5 => ?_, fun h5 => ?_⟩
      · have h6 := hb.mp h5
        exact ⟨80 - (i + 1), by omega, i + 1, wy2, hf0, rfl, by omega, by rw [nI_add]; simp only [rtH, if_neg (fun q : (i = 0 ∨ ch (i - 1) = 59) ∧ _ => h6 q.1)], by rw [show rtS L n ch v (i + 1) = rtS L n ch v i by simp only [rtS, if_neg h6]]; rfl, rfl, rfl⟩
      · have h6 : i = 0 ∨ ch (i - 1) = 59 := Classical.byContradiction (fun q => h5 (hb.mpr q))
        have hL2 : ∀ t', t' < 4 → vLe (rtS L n ch v i) t' = nI (L t') ∧ L t' ≤ 2 := fun t' ht' => by
          rw [rtS_keep]
          exact hL t' ht'
        refine ⟨_, i, n, ch, rtS L n ch v i, wy2, _, L, rfl, rfl, h4, hn, hch, hC hf0 i h4 h6, hL2, rfl, fun wy3 => ?_⟩
        have e9 : rtS L n ch v (i + 1) = rcV L n ch i (rtS L n ch v i) := by simp only [rtS, if_pos h6]
        rw [← e9]
        refine ⟨fun h7 => ?_, fun h7 => ?_⟩
        · exact ⟨80 - (i + 1), by omega, i + 1, wy3, hf0, rfl, by omega, by rw [nI_add]; simp only [rtH, if_neg (fun q : (i = 0 ∨ ch (i - 1) = 59) ∧ _ => h7 q.2)], rfl, rfl, rfl⟩
        · exact ⟨80 - (i + 1), by omega, i + 1, wy3, hf0, rfl, by omega, by rw [nI_add, nI_add]; simp only [rtH, if_pos (And.intro h6 h7)], rfl, rfl, rfl⟩
  · refine wr_ok hf hc 5 0 _ _ _ _ _ ?_
    refine ⟨n, ch, rfl, hn, hch, rfl, ?_⟩
    refine ⟨fun h1 => ?_, fun h1 => ?_⟩
    · have h2 : fErr ch n = none := hno.mp h1
      refine ⟨v, wy, n, ch, H, o, s, r, ho, hs, rfl, ?_⟩
      exact ⟨80, 0, wy, h2, rfl, by omega, rfl, rfl, rfl, rfl⟩
    · exact hX0 (fun q => h1 (hno.mpr q))
theorem feR_rc {ch : Nat → Nat} {n : Nat} : ∀ (f i st nu : Nat), i + f = n → feR ch n f i st nu = none → nu < 256 → (∀ j, i ≤ j → j < n → ((j = i ∧ st = 1) ∨ (i < j ∧ ch (j - 1) = 59)) → rcC n ch j) ∧ (st = 2 → numN ch (n - (i + 1)) (i + 1) 0 < 256) ∧ (st = 3 → numN ch f i 0 < 256) ∧ (st = 4 → numN ch f i nu < 256) ∧ (st = 5 → i < n ∧ 48 ≤ ch i ∧ ch i < 52)
  | 0, i, st, nu, hn, h, hnu => by
    unfold feR at h
    split at h
    · refine ⟨fun j h1 h2 _ => by omega, by omega, by omega, fun _ => ?_, by omega⟩
      unfold numN
      exact hnu
    · cases h
  | f + 1, i, st, nu, hn, h, hnu => by
    unfold feR at h
    split at h
    · cases h
    rename_i h0
    have hnu' : (if stgA st nu (ch i) = 4 then (if st = 4 then nu * 10 else 0) + ch i - 48 else nu) < 256 := by
      split
      · rename_i h4
        have := stgA_4 h4
        split <;> omega
      · exact hnu
    obtain ⟨i1, i2, i3, i4, i5⟩ := feR_rc f (i + 1) _ _ (by omega) h hnu'
    refine ⟨fun j hj hjn hq => ?_, fun hs => ?_, fun hs => ?_, fun hs => ?_, fun hs => ?_⟩
    · by_cases hji : j = i
      · subst hji
        obtain rfl : st = 1 := by omega
        have e1 : stgA 1 nu (ch j) = stg1 (ch j) := if_pos rfl
        rw [e1] at h0 i1 i2 i3 i4 i5
        unfold rcC
        unfold stg1 at h0 i2 i5
        by_cases c1 : 48 ≤ ch j ∧ ch j < 52
        · rw [if_pos c1] at i2
          exact Or.inr (Or.inr (Or.inr ⟨c1.1, c1.2, i2 rfl⟩))
        · rw [if_neg c1] at h0 i5
          by_cases c2 : ch j = 102
          · rw [if_pos c2] at i5
            exact Or.inr (Or.inr (Or.inl ⟨c2, i5 rfl⟩))
          · rw [if_neg c2] at h0
            by_cases c3 : ch j = 109 ∨ ch j = 104
            · rcases c3 with c3 | c3
              · exact Or.inl c3
              · exact Or.inr (Or.inl c3)
            · rw [if_neg c3] at h0
              exact absurd rfl h0
      · have hq2 : ch (j - 1) = 59 := by
          rcases hq with q | q
          · exact absurd q.1 hji
          · exact q.2
        by_cases hj1 : j = i + 1
        · subst hj1
          have hq3 : ch i = 59 := hq2
          refine i1 (i + 1) (Nat.le_refl _) hjn (Or.inl ⟨rfl, ?_⟩)
          rw [hq3] at h0 ⊢
          unfold stgA stg1 at h0 ⊢
          split at h0
          · simp at h0
          · split at h0
            · simp at h0
            · split at h0
              · simp at h0
              · split at h0
                · rename_i q1 q2 q3 q4
                  rw [if_neg q1, if_neg q2, if_neg q3, if_pos q4, if_pos rfl]
                · split at h0
                  · simp at h0
                  · split at h0
                    · rename_i q1 q2 q3 q4 q5 q6
                      rw [if_neg q1, if_neg q2, if_neg q3, if_neg q4, if_neg q5, if_pos q6, if_pos rfl]
                    · exact absurd rfl h0
        · exact i1 j (by omega) hjn (Or.inr ⟨by omega, hq2⟩)
    · subst hs
      have e1 : stgA 2 nu (ch i) = if ch i = 58 then 3 else 0 := rfl
      rw [e1] at h0 i3
      by_cases c1 : ch i = 58
      · rw [if_pos c1] at i3
        have := i3 rfl
        rwa [show n - (i + 1) = f by omega]
      · rw [if_neg c1] at h0
        exact absurd rfl h0
    · subst hs
      have e1 : stgA 3 nu (ch i) = if 48 ≤ ch i ∧ ch i ≤ 57 then 4 else 0 := rfl
      rw [e1] at h0 i4
      by_cases c1 : 48 ≤ ch i ∧ ch i ≤ 57
      · rw [if_pos c1] at i4
        have := i4 rfl
        rw [if_pos rfl, if_neg (by decide)] at this
        unfold numN
        rw [if_pos c1, Nat.zero_mul]
        exact this
      · rw [if_neg c1] at h0
        exact absurd rfl h0
    · subst hs
      have e1 : stgA 4 nu (ch i) = if ch i = 59 then 1 else if (48 ≤ ch i ∧ ch i ≤ 57) ∧ ¬ nu = 0 ∧ nu * 10 + (ch i - 48) < 256 then 4 else 0 := rfl
      rw [e1] at h0 i4
      by_cases c0 : ch i = 59
      · unfold numN
        rw [if_neg (by omega)]
        exact hnu
      · rw [if_neg c0] at h0 i4
        by_cases c1 : (48 ≤ ch i ∧ ch i ≤ 57) ∧ ¬ nu = 0 ∧ nu * 10 + (ch i - 48) < 256
        · rw [if_pos c1] at i4
          have := i4 rfl
          rw [if_pos rfl, if_pos rfl] at this
          unfold numN
          rw [if_pos c1.1]
          exact this
        · rw [if_neg c1] at h0
          exact absurd rfl h0
    · subst hs
      have e1 : stgA 5 nu (ch i) = if 48 ≤ ch i ∧ ch i < 52 then 6 else 0 := rfl
      rw [e1] at h0
      by_cases c1 : 48 ≤ ch i ∧ ch i < 52
      · exact ⟨by omega, c1.1, c1.2⟩
      · rw [if_neg c1] at h0
        exact absurd rfl h0
theorem fErr_rc {ch : Nat → Nat} {n : Nat} (h : fErr ch n = none) : ∀ i, i < n → (i = 0 ∨ ch (i - 1) = 59) → rcC n ch i := by
  intro i hi hq
  refine (feR_rc n 0 1 0 (by omega) h (by decide)).1 i (by omega) hi ?_
  by_cases h0 : i = 0
  · exact Or.inl ⟨h0, rfl⟩
  · exact Or.inr ⟨by omega, hq.resolve_left h0⟩
end MQ7

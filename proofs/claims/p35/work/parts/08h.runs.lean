/-! PartitionedCache: streams and runs. -/
section MQ7
theorem mvV_keep (L : Nat → Nat) (v : gV) : vLe (mvV L v) = vLe v := rfl
theorem epV_keep (L : Nat → Nat) (v : gV) : vLe (epV L v) = vLe v := by
  unfold epV
  split <;> rfl
theorem acV_keep (L : Nat → Nat) (v : gV) (t a : Nat) : vLe (acV L v t a) = vLe v := by
  unfold acV
  rw [epV_keep, acB_keep]
def stS (L : Nat → Nat) (v : gV) (t a z : Nat) : Nat → gV
  | 0 => v
  | i + 1 => acV L (stS L v t a z i) t ((a + i * z) % 256)
def stH (L : Nat → Nat) (v : gV) (t a z : Nat) : Nat → Nat
  | 0 => 0
  | i + 1 => if acR (stS L v t a z i) t ((a + i * z) % 256) = 1 then stH L v t a z i + 1 else stH L v t a z i
theorem stS_keep (L : Nat → Nat) (v : gV) (t a z : Nat) : ∀ i, vLe (stS L v t a z i) = vLe v
  | 0 => rfl
  | i + 1 => by
    unfold stS
    rw [acV_keep]
    exact stS_keep L v t a z i
theorem stH_le (L : Nat → Nat) (v : gV) (t a z : Nat) : ∀ i, stH L v t a z i ≤ i
  | 0 => Nat.le_refl _
  | i + 1 => by
    have := stH_le L v t a z i
    unfold stH
    split <;> omega
def sX6_stream : gSX := fun av es K KX => ∃ x y z u v wy n ch H o s r L, av = [.ref 0, .int x, .int y, .int z, .int u] ∧ o < 6 ∧ s ≤ 6 ∧ (∀ t, t < 4 → vLe v t = nI (L t) ∧ L t ≤ 2) ∧ es = wX v wy n ch H o s r ∧ (∀ t a c m, t < 4 → a ≤ 255 → 1 ≤ c → c ≤ 64 → 1 ≤ m → m ≤ 40 → x = nI t → y = nI a → z = nI c → u = nI m → ∀ wy', K (some (.int (nI (stH L v t a c m)))) (wX (stS L v t a c m) wy' n ch (psH H o s v) (psO o s) (psS s) r)) ∧ (¬ inI x 4 → KX "java/lang/IndexOutOfBoundsException" (wX v wy n ch H o s r)) ∧ (inI x 4 → ¬ inA y 0 255 → KX "java/lang/IllegalArgumentException" (wX v wy n ch H o s r)) ∧ (inI x 4 → inA y 0 255 → ¬ inA z 1 64 → KX "java/lang/IllegalArgumentException" (wX v wy n ch H o s r)) ∧ (inI x 4 → inA y 0 255 → inA z 1 64 → ¬ inA u 1 40 → KX "java/lang/IllegalArgumentException" (wX v wy n ch H o s r))
def rmX6_stream : Room := { frames := 8, cells := 4, slots := 24, locals := 131 }
def pX6_stream (K : gK) (KX : gKX) : List (Nat × gO) := [(0, oFR 17 (oILoad 1)), (1, oCallSX 4 24 4 24 1 6 1 [] sX6_requireTenant KX), (4, oFR 17 (oILoad 2)), (5, oConst (nI 0)), (6, oConst (nI 255)), (9, oCallSX 4 24 4 24 1 6 3 [] sX6_requireArgument KX), (12, oFR 17 (oILoad 3)), (13, oConst (nI 1)), (14, oConst (nI 64)), (16, oCallSX 4 24 4 24 1 6 3 [] sX6_requireArgument KX), (19, oFR 17 (oILoad 4)), (21, oConst (nI 1)), (22, oConst (nI 40)), (24, oCallSX 4 24 4 24 1 6 3 [] sX6_requireArgument KX), (27, oFR 17 (oALoad 0)), (28, oGet 6 2), (31, oALoad 0), (32, oGet 6 0), (35, oPushX 4 24), (38, oConst (nI 0)), (39, oIStore 7 5), (41, oConst (nI 0)), (42, oFR 17 (oIStore 7 6)), (44, oFR 17 (oILoad 6)), (46, oILoad 4), (48, oICmp_ge 79), (51, oALoad 0), (52, oILoad 1), (53, oILoad 2), (54, oILoad 6), (56, oILoad 3), (57, oMul), (58, oAdd), (59, oConst (nI 256)), (62, oRem), (63, oCallV0 4 24 6 2 sX6_makeAccess), (66, oConst (nI 1)), (67, oFR 17 (oICmp_ne 73)), (70, oIInc 7 5 (nI 1)), (73, oFR 17 (oIInc 7 6 (nI 1))), (76, oGoto 44), (79, oFR 17 (oILoad 5)), (81, oRet K 4 24)]
set_option maxRecDepth 100000 in
theorem kX6_stream {X : gX} {l : Launch} (hM : gM X l cX6_stream RX6 wsX6_stream rmX6_stream) {K : gK} (hE : gR X K 4 24 (some .int)) {KX : gKX} (hX : gRX X KX 4 24) (hl : l.stackTraces = false) (hnL : X.2.2.2.2.2.2.2.2.2.2.2.2.2.2.2.2 = 7) : okL X (pX6_stream K KX) := by
  obtain ⟨p, l1, e, R, s, m, args, below, meth, c, D, cA, A, ag, ad0, Q, nL⟩ := X
  cases hnL
  refine ⟨ok_FR (ok_iload_n hM 1 dX6_stream_0 rfl),
    ok_callSX hM hX [] (ctX6_requireTenant l hl) rfl gX6_stream_X6_requireTenant rfl rfl rfl (by decide +kernel) (by decide) dX6_stream_1,
    ok_FR (ok_iload_n hM 2 dX6_stream_4 rfl),
    ok_iconst hM dX6_stream_5 rfl,
    ok_sipush hM dX6_stream_6 rfl,
    ok_callSX hM hX [] (ctX6_requireArgument l hl) rfl gX6_stream_X6_requireArgument rfl rfl rfl (by decide +kernel) (by decide) dX6_stream_9,
    ok_FR (ok_iload_n hM 3 dX6_stream_12 rfl),
    ok_iconst hM dX6_stream_13 rfl,
    ok_bipush hM dX6_stream_14 rfl,
    ok_callSX hM hX [] (ctX6_requireArgument l hl) rfl gX6_stream_X6_requireArgument rfl rfl rfl (by decide +kernel) (by decide) dX6_stream_16,
    ok_FR (ok_iload hM 4 dX6_stream_19),
    ok_iconst hM dX6_stream_21 rfl,
    ok_bipush hM dX6_stream_22 rfl,
    ok_callSX hM hX [] (ctX6_requireArgument l hl) rfl gX6_stream_X6_requireArgument rfl rfl rfl (by decide +kernel) (by decide) dX6_stream_24,
    ok_FR (ok_aload_n hM 0 dX6_stream_27 rfl),
    ok_get (C := RX6) (T := TX6) (Nf := 6) hM (fun _ h => List.mem_cons_of_mem _ (List.mem_append_left _ (List.mem_append_left _ (List.mem_append_left _ (List.mem_append_left _ (List.mem_append_left _ (List.mem_append_left _ (List.mem_append_left _ (List.mem_append_right _ h))))))))) rfl 2 (by decide) (List.mem_of_getElem? (i := 1) rfl) rfl dX6_stream_28,
    ok_aload_n hM 0 dX6_stream_31 rfl,
    ok_get (C := RX6) (T := TX6) (Nf := 6) hM (fun _ h => List.mem_cons_of_mem _ (List.mem_append_left _ (List.mem_append_left _ (List.mem_append_left _ (List.mem_append_left _ (List.mem_append_left _ (List.mem_append_left _ (List.mem_append_left _ (List.mem_append_right _ h))))))))) rfl 0 (by decide) (List.mem_of_getElem? (i := 2) rfl) rfl dX6_stream_32,
    ok_pushX (ok_callV hM idH (ctX1_push l) rfl rfl gX6_stream_X1_push rfl rfl rfl (by decide +kernel) (by decide) dX6_stream_35),
    ok_iconst hM dX6_stream_38 rfl,
    ok_istore hM 5 dX6_stream_39,
    ok_iconst hM dX6_stream_41 rfl,
    ok_FR (ok_istore hM 6 dX6_stream_42),
    ok_FR (ok_iload hM 6 dX6_stream_44),
    ok_iload hM 4 dX6_stream_46,
    ok_icmp_ge hM 79 dX6_stream_48 (by decide),
    ok_aload_n hM 0 dX6_stream_51 rfl,
    ok_iload_n hM 1 dX6_stream_52 rfl,
    ok_iload_n hM 2 dX6_stream_53 rfl,
    ok_iload hM 6 dX6_stream_54,
    ok_iload_n hM 3 dX6_stream_56 rfl,
    ok_imul hM dX6_stream_57,
    ok_iadd hM dX6_stream_58,
    ok_sipush hM dX6_stream_59 rfl,
    ok_irem hM dX6_stream_62,
    ok_callV0 hM (ctX6_makeAccess l) rfl gX6_stream_X6_makeAccess rfl rfl rfl (by decide +kernel) (by decide) dX6_stream_63,
    ok_iconst hM dX6_stream_66 rfl,
    ok_FR (ok_icmp_ne hM 73 dX6_stream_67 (by decide)),
    ok_iinc hM 5 dX6_stream_70 rfl,
    ok_FR (ok_iinc hM 6 dX6_stream_73 rfl),
    ok_goto hM 44 dX6_stream_76 (by decide),
    ok_FR (ok_iload hM 5 dX6_stream_79),
    ok_ret hM hE dX6_stream_81,
    trivial⟩
set_option maxRecDepth 100000 in
theorem ctX6_stream (l : Launch) (hl : l.stackTraces = false) : CtX l yX6_stream wsX6_stream rmX6_stream 4 24 sX6_stream := by
  refine ctX_of (own := RX6) (cc := cX6_stream) (maxL := 7) (ret := (some .int)) (by decide) rfl rfl (by rintro _ _ _ _ ⟨x, y, z, u, v, wy, n, ch, H, o, s, r, L, rfl, ho, hs, hL, rfl, hK, hX0, hX1, hX2, hX3⟩; exact Nat.le_of_ble_eq_true rfl) ?_
  intro X av es K KX hM hE hX hnL hsp
  obtain ⟨x, y, z, u, v, wy, n, ch, H, o, s, r, L, rfl, ho, hs, hL, rfl, hK, hX0, hX1, hX2, hX3⟩ := hsp
  have hf := kX6_stream hM hE hX hl hnL
  refine g_with (X := X) 44 [0, 1, 2, 3, 4, 5, 6] (fun μ vs es k n9 => ∃ (i t a c m : Nat) (wy' : Nat → Int32), μ = 40 - i ∧ i ≤ m ∧ t < 4 ∧ a ≤ 255 ∧ 1 ≤ c ∧ c ≤ 64 ∧ m ≤ 40 ∧ (∀ wy', K (some (.int (nI (stH L v t a c m)))) (wX (stS L v t a c m) wy' n ch (psH H o s v) (psO o s) (psS s) r)) ∧ vs = [.ref 0, .int (nI t), .int (nI a), .int (nI c), .int (nI m), .int (nI (stH L v t a c i)), .int (nI i)] ∧ es = wX (stS L v t a c i) wy' n ch (psH H o s v) (psO o s) (psS s) r ∧ k = 4 ∧ n9 = 24) cut_nil (fun μ hc vs es k n9 hI => ?_) (fun hcut => ?_)
  · obtain ⟨i, t, a, c, m, wy2, rfl, hi, ht, ha, hc0, hc1, hm, hK, rfl, rfl, rfl, rfl⟩ := hI
    refine g_go hf hc 5 ?_
    refine ⟨fun h2 => ?_, fun h2 => ?_⟩
    · have h4 : i = m := by
        rw [nI_leI (by omega) (by omega)] at h2
        omega
      subst h4
      exact hK wy2
    · have h4 : i < m := by
        rw [nI_leI (by omega) (by omega)] at h2
        omega
      have hic : i * c ≤ 40 * 64 := Nat.mul_le_mul (by omega) hc1
      refine ⟨by decide, ?_⟩
      have hL2 : ∀ t', t' < 4 → vLe (stS L v t a c i) t' = nI (L t') ∧ L t' ≤ 2 := fun t' ht' => by
        rw [stS_keep]
        exact hL t' ht'
      have hr2 : acR (stS L v t a c i) t ((a + i * c) % 256) ≤ 2 := rsl_le _ _ _ _
      have hl2 := stH_le L v t a c i
      refine ⟨_, _, t, (a + i * c) % 256, stS L v t a c i, wy2, _, L, rfl, rfl, by rw [pk_mul, nI_add]; exact pk_rem (by omega) (by decide) (by decide), ht, by omega, hL2, rfl, fun wy3 => ?_⟩
      have e9 : stS L v t a c (i + 1) = acV L (stS L v t a c i) t ((a + i * c) % 256) := rfl
      rw [← e9]
      refine ⟨fun h5 => ?_, fun h5 => ?_⟩
      · have h6 : ¬ acR (stS L v t a c i) t ((a + i * c) % 256) = 1 := fun q => h5 (by rw [q])
        exact ⟨40 - (i + 1), by omega, i + 1, t, a, c, m, wy3, rfl, by omega, ht, ha, hc0, hc1, hm, hK, by rw [nI_add]; simp only [stH, if_neg h6], rfl, rfl, rfl⟩
      · have h6 : acR (stS L v t a c i) t ((a + i * c) % 256) = 1 := (nI_eq (by omega) (by decide)).mp h5
        exact ⟨40 - (i + 1), by omega, i + 1, t, a, c, m, wy3, rfl, by omega, ht, ha, hc0, hc1, hm, hK, by rw [nI_add, nI_add]; simp only [stH, if_pos h6], rfl, rfl, rfl⟩
  · refine wr_ok hf hcut 5 0 _ _ _ _ _ ?_
    refine ⟨_, rfl, rfl, fun t ht et => ?_, fun q => ?_⟩
    · subst et
      refine ⟨_, _, _, 0, 255, rfl, rfl, rfl, by decide, by decide, rfl, fun a ha0 ha ea => ?_, fun q => ?_⟩
      · subst ea
        refine ⟨_, _, _, 1, 64, rfl, rfl, rfl, by decide, by decide, rfl, fun c hc0 hc ec => ?_, fun q => ?_⟩
        · subst ec
          refine ⟨_, _, _, 1, 40, rfl, rfl, rfl, by decide, by decide, rfl, fun m hm0 hm em => ?_, fun q => ?_⟩
          · subst em
            refine ⟨v, wy, n, ch, H, o, s, r, ho, hs, rfl, ?_⟩
            exact ⟨40, 0, t, a, c, m, wy, rfl, by omega, ht, ha, hc0, hc, hm, hK t a c m ht ha hc0 hc hm0 hm rfl rfl rfl rfl, rfl, rfl, rfl, rfl⟩
          · exact hX3 ⟨t, ht, rfl⟩ ⟨a, ha0, ha, rfl⟩ ⟨c, hc0, hc, rfl⟩ q
        · exact hX2 ⟨t, ht, rfl⟩ ⟨a, ha0, ha, rfl⟩ q
      · exact hX1 ⟨t, ht, rfl⟩ q
    · exact hX0  q
end MQ7

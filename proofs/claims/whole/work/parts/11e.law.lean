/-! The law's loop. -/
section LLP
theorem nI_sub5 {L m : Nat} (hL : L ≤ 2560) (hm : m ≤ 2560) (h : ¬ (nI L - nI 5 < nI m)) : m + 5 ≤ L := by
  have h2 : ¬ ((nI L - nI 5).toInt < (nI m).toInt) := fun z => h (Int32.lt_iff_toInt_lt.mpr z)
  rw [Int32.toInt_sub, nI_toInt (by omega), nI_toInt (by omega), nI_toInt (by omega)] at h2
  have e : ((L : Int) - (5 : Nat)).bmod (2 ^ 32) = (L : Int) - 5 := by
    simp only [Int.bmod_def]
    split <;> omega
  rw [e] at h2
  omega
def q_tail : List (Nat × gO) := [(1786, oFR 0 (oIInc 9 5 (nI 5))), (1789, oGoto 28)]
set_option maxRecDepth 100000 in
theorem kq_tail {X : gX} {l : Launch} {b Ls : Nat} {xs : Nat → Int32} (h : lawX X l b Ls xs) : okL X (q_tail) := by
  obtain ⟨hM, hSc, hLE, hC9, hl, hnL⟩ := h
  obtain ⟨p, l1, e, R, s, m, args, below, meth, c, D, cA, A, ag, ad0, Q, nL⟩ := X
  cases hnL
  refine ⟨ok_FR (ok_iinc hM 5 dL_law_1786 rfl),
    ok_goto hM 28 dL_law_1789 (by decide),
    trivial⟩
def q_head (Ls : Nat) (xs : Nat → Int32) : List (Nat × gO) := [(28, oFR 0 (oILoad 5)), (30, oALoad 0), (31, oSlen Ls 1999), (32, oConst (nI 5)), (33, oSub), (34, oICmp_gt 1792), (37, oALoad 0), (38, oILoad 5), (40, oSld Ls xs 1999), (41, oConst (nI 31)), (43, oAnd), (44, oTable 0 1786 [188, 256, 348, 404, 417, 485, 553, 609, 622, 678, 691, 704, 748, 792, 848, 904, 960, 1016, 1084, 1168, 1236, 1304, 1372, 1440, 1520, 1576, 1589, 1602, 1670, 1683, 1760, 1773]), (1792, oConst (nI 1)), (1793, oLEnd)]
set_option maxRecDepth 100000 in
theorem kq_head {X : gX} {l : Launch} {b Ls : Nat} {xs : Nat → Int32} (h : lawX X l b Ls xs) : okL X (q_head Ls xs) := by
  obtain ⟨hM, hSc, hLE, hC9, hl, hnL⟩ := h
  obtain ⟨p, l1, e, R, s, m, args, below, meth, c, D, cA, A, ag, ad0, Q, nL⟩ := X
  cases hnL
  refine ⟨ok_FR (ok_iload hM 5 dL_law_28),
    ok_aload_n hM 0 dL_law_30 rfl,
    ok_slen hM hSc dL_law_31,
    ok_iconst hM dL_law_32 rfl,
    ok_isub hM dL_law_33,
    ok_icmp_gt hM 1792 dL_law_34 (by decide),
    ok_aload_n hM 0 dL_law_37 rfl,
    ok_iload hM 5 dL_law_38,
    ok_sld hM hSc dL_law_40,
    ok_bipush hM dL_law_41 rfl,
    ok_iand hM dL_law_43,
    ok_table hM 0 1786 [188, 256, 348, 404, 417, 485, 553, 609, 622, 678, 691, 704, 748, 792, 848, 904, 960, 1016, 1084, 1168, 1236, 1304, 1372, 1440, 1520, 1576, 1589, 1602, 1670, 1683, 1760, 1773] dL_law_44 rfl (by decide) (by decide) (by decide),
    ok_iconst hM dL_law_1792 rfl,
    ok_lend hLE dL_law_1793,
    trivial⟩
def lwCuts (Ls j : Nat) : List gC := [(188, lwK, lwP Ls j), (256, lwK, lwP Ls j), (348, lwK, lwP Ls j), (404, lwK, lwP Ls j), (417, lwK, lwP Ls j), (485, lwK, lwP Ls j), (553, lwK, lwP Ls j), (609, lwK, lwP Ls j), (622, lwK, lwP Ls j), (678, lwK, lwP Ls j), (691, lwK, lwP Ls j), (704, lwK, lwP Ls j), (748, lwK, lwP Ls j), (792, lwK, lwP Ls j), (848, lwK, lwP Ls j), (904, lwK, lwP Ls j), (960, lwK, lwP Ls j), (1016, lwK, lwP Ls j), (1084, lwK, lwP Ls j), (1168, lwK, lwP Ls j), (1236, lwK, lwP Ls j), (1304, lwK, lwP Ls j), (1372, lwK, lwP Ls j), (1440, lwK, lwP Ls j), (1520, lwK, lwP Ls j), (1576, lwK, lwP Ls j), (1589, lwK, lwP Ls j), (1602, lwK, lwP Ls j), (1670, lwK, lwP Ls j), (1683, lwK, lwP Ls j), (1760, lwK, lwP Ls j), (1773, lwK, lwP Ls j)]
theorem lwP_j {Ls j : Nat} {vs : List Value} {es : List gE} {k n : Nat} (h : lwP Ls j vs es k n) : 5 * j + 5 ≤ Ls := by
  obtain ⟨c, wy, f, g, E, th, hj, -⟩ := h
  exact hj
theorem lwCuts_ok {X : gX} {l : Launch} {b Ls : Nat} {xs : Nat → Int32} (h : lawX X l b Ls xs) {j : Nat} (hT : 5 * j + 5 ≤ Ls → cutOK X [(1786, lwK, lwQ j)]) : cutOK X (lwCuts Ls j) := by
  unfold cutOK lwCuts
  exact List.forall_mem_cons.mpr ⟨fun vs es k n hp => case_0 h (hT (lwP_j hp)) hp, List.forall_mem_cons.mpr ⟨fun vs es k n hp => case_1 h (hT (lwP_j hp)) hp, List.forall_mem_cons.mpr ⟨fun vs es k n hp => case_2 h (hT (lwP_j hp)) hp, List.forall_mem_cons.mpr ⟨fun vs es k n hp => case_3 h (hT (lwP_j hp)) hp, List.forall_mem_cons.mpr ⟨fun vs es k n hp => case_4 h (hT (lwP_j hp)) hp, List.forall_mem_cons.mpr ⟨fun vs es k n hp => case_5 h (hT (lwP_j hp)) hp, List.forall_mem_cons.mpr ⟨fun vs es k n hp => case_6 h (hT (lwP_j hp)) hp, List.forall_mem_cons.mpr ⟨fun vs es k n hp => case_7 h (hT (lwP_j hp)) hp, List.forall_mem_cons.mpr ⟨fun vs es k n hp => case_8 h (hT (lwP_j hp)) hp, List.forall_mem_cons.mpr ⟨fun vs es k n hp => case_9 h (hT (lwP_j hp)) hp, List.forall_mem_cons.mpr ⟨fun vs es k n hp => case_10 h (hT (lwP_j hp)) hp, List.forall_mem_cons.mpr ⟨fun vs es k n hp => case_11 h (hT (lwP_j hp)) hp, List.forall_mem_cons.mpr ⟨fun vs es k n hp => case_12 h (hT (lwP_j hp)) hp, List.forall_mem_cons.mpr ⟨fun vs es k n hp => case_13 h (hT (lwP_j hp)) hp, List.forall_mem_cons.mpr ⟨fun vs es k n hp => case_14 h (hT (lwP_j hp)) hp, List.forall_mem_cons.mpr ⟨fun vs es k n hp => case_15 h (hT (lwP_j hp)) hp, List.forall_mem_cons.mpr ⟨fun vs es k n hp => case_16 h (hT (lwP_j hp)) hp, List.forall_mem_cons.mpr ⟨fun vs es k n hp => case_17 h (hT (lwP_j hp)) hp, List.forall_mem_cons.mpr ⟨fun vs es k n hp => case_18 h (hT (lwP_j hp)) hp, List.forall_mem_cons.mpr ⟨fun vs es k n hp => case_19 h (hT (lwP_j hp)) hp, List.forall_mem_cons.mpr ⟨fun vs es k n hp => case_20 h (hT (lwP_j hp)) hp, List.forall_mem_cons.mpr ⟨fun vs es k n hp => case_21 h (hT (lwP_j hp)) hp, List.forall_mem_cons.mpr ⟨fun vs es k n hp => case_22 h (hT (lwP_j hp)) hp, List.forall_mem_cons.mpr ⟨fun vs es k n hp => case_23 h (hT (lwP_j hp)) hp, List.forall_mem_cons.mpr ⟨fun vs es k n hp => case_24 h (hT (lwP_j hp)) hp, List.forall_mem_cons.mpr ⟨fun vs es k n hp => case_25 h (hT (lwP_j hp)) hp, List.forall_mem_cons.mpr ⟨fun vs es k n hp => case_26 h (hT (lwP_j hp)) hp, List.forall_mem_cons.mpr ⟨fun vs es k n hp => case_27 h (hT (lwP_j hp)) hp, List.forall_mem_cons.mpr ⟨fun vs es k n hp => case_28 h (hT (lwP_j hp)) hp, List.forall_mem_cons.mpr ⟨fun vs es k n hp => case_29 h (hT (lwP_j hp)) hp, List.forall_mem_cons.mpr ⟨fun vs es k n hp => case_30 h (hT (lwP_j hp)) hp, List.forall_mem_cons.mpr ⟨fun vs es k n hp => case_31 h (hT (lwP_j hp)) hp, fun _ h => absurd h List.not_mem_nil⟩⟩⟩⟩⟩⟩⟩⟩⟩⟩⟩⟩⟩⟩⟩⟩⟩⟩⟩⟩⟩⟩⟩⟩⟩⟩⟩⟩⟩⟩⟩⟩
def lwI (Ls : Nat) (μ : Nat) : List Value → List gE → Nat → Nat → Prop := fun vs es k n => ∃ j c wy f g E th, μ = Ls + 5 - 5 * j ∧ 5 * j ≤ Ls ∧ inv c ∧ mW c th E ∧ vs = [.ref 1999, .ref 0, .ref 101, .ref 99, .ref 100, .int (nI (5 * j))] ∧ es = lwE c wy f g (r101 E) ∧ k ≤ 200 + 10 * j ∧ n ≤ 5000 + 60 * j
theorem law_tail {X : gX} {l : Launch} {b Ls : Nat} {xs : Nat → Int32} (h : lawX X l b Ls xs) {j : Nat} (hj : 5 * j + 5 ≤ Ls) {μ : Nat} (hμ : μ = Ls + 5 - 5 * j) (hc : cutOK X [(28, lwK, fun vs es k n => ∃ ν, ν < μ ∧ lwI Ls ν vs es k n)]) : cutOK X [(1786, lwK, lwQ j)] := by
  intro c0 hm vs es k n hq
  obtain rfl := List.mem_singleton.mp hm
  obtain ⟨c, wy, f, g, E, th, hinv, hmw, rfl, rfl, hk, hn⟩ := hq
  refine wr_ok (kq_tail h) hc 9 1786 _ _ _ _ _ ?_
  refine ⟨Ls + 5 - 5 * (j + 1), by omega, j + 1, c, wy, f, g, E, th, rfl, by omega, hinv, hmw, ?_, rfl, by omega, by omega⟩
  exact congrArg (fun i : Int32 => [Value.ref 1999, .ref 0, .ref 101, .ref 99, .ref 100, .int i]) (nI_add (5 * j) 5)
theorem law_loop {X : gX} {l : Launch} {b Ls : Nat} {xs : Nat → Int32} (h : lawX X l b Ls xs) (hLs : Ls ≤ 2560) : cutOK X [(28, lwK, fun vs es k n => ∃ ν, lwI Ls ν vs es k n)] := by
  refine g_loop 28 lwK (lwI Ls) cut_nil (fun μ hc vs es k n hI => ?_)
  obtain ⟨j, c, wy, f, g, E, th, hμ, hj, hinv, hmw, rfl, rfl, hk, hn⟩ := hI
  have hC := lwCuts_ok (j := j) h (fun hj5 => law_tail h hj5 hμ hc)
  refine wr_ok (kq_head h) hC 9 28 _ _ _ _ _ ?_
  refine ⟨fun hgt => ?_, fun hle => ?_⟩
  · exact ⟨rfl, by omega, by omega⟩
  · have hj5 : 5 * j + 5 ≤ Ls := nI_sub5 hLs (by omega) hle
    refine ⟨5 * j, rfl, by omega, ?_⟩
    obtain ⟨m, hm, em⟩ := pk_andE (xs (5 * j)) (m := nI 31) 5 (by decide)
    refine ⟨m, em, by omega, ?_⟩
    have hm2 : m < 32 := hm
    have hP : lwP Ls j [.ref 1999, .ref 0, .ref 101, .ref 99, .ref 100, .int (nI (5 * j))] (lwE c wy f g (r101 E)) k n := ⟨c, wy, f, g, E, th, hj5, hLs, hinv, hmw, rfl, rfl, hk, hn⟩
    rcases (show m = 0 ∨ m = 1 ∨ m = 2 ∨ m = 3 ∨ m = 4 ∨ m = 5 ∨ m = 6 ∨ m = 7 ∨ m = 8 ∨ m = 9 ∨ m = 10 ∨ m = 11 ∨ m = 12 ∨ m = 13 ∨ m = 14 ∨ m = 15 ∨ m = 16 ∨ m = 17 ∨ m = 18 ∨ m = 19 ∨ m = 20 ∨ m = 21 ∨ m = 22 ∨ m = 23 ∨ m = 24 ∨ m = 25 ∨ m = 26 ∨ m = 27 ∨ m = 28 ∨ m = 29 ∨ m = 30 ∨ m = 31 by omega) with rfl | rfl | rfl | rfl | rfl | rfl | rfl | rfl | rfl | rfl | rfl | rfl | rfl | rfl | rfl | rfl | rfl | rfl | rfl | rfl | rfl | rfl | rfl | rfl | rfl | rfl | rfl | rfl | rfl | rfl | rfl | rfl
    all_goals exact hP
end LLP

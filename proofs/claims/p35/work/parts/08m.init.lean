/-! Constructors of History and PartitionedCache. -/
section MI3
abbrev st15 (v : gV) : List gE := [.inr (4, [.ref 16, .ref 20, .ref 23, .ref 24, .int (vEp v), .int (vAc v)]), .inr (3, [.ref 17, .ref 18, .ref 19]), .inl (0, 8, .inl (vOw v)), .inl (0, 32, .inl (vHd v)), .inl (0, 32, .inl (vSt v)), .inr (2, [.ref 21, .ref 22]), .inl (0, 64, .inl (vAd v)), .inl (0, 32, .inl (vGa v)), .inl (0, 4, .inl (vLe v)), .inl (0, 16, .inl (vCo v))]
abbrev st25 (v : gV) : List gE := [.inr (4, [.ref 26, .ref 30, .ref 33, .ref 34, .int (vEp v), .int (vAc v)]), .inr (3, [.ref 27, .ref 28, .ref 29]), .inl (0, 8, .inl (vOw v)), .inl (0, 32, .inl (vHd v)), .inl (0, 32, .inl (vSt v)), .inr (2, [.ref 31, .ref 32]), .inl (0, 64, .inl (vAd v)), .inl (0, 32, .inl (vGa v)), .inl (0, 4, .inl (vLe v)), .inl (0, 16, .inl (vCo v))]
abbrev st35 (v : gV) : List gE := [.inr (4, [.ref 36, .ref 40, .ref 43, .ref 44, .int (vEp v), .int (vAc v)]), .inr (3, [.ref 37, .ref 38, .ref 39]), .inl (0, 8, .inl (vOw v)), .inl (0, 32, .inl (vHd v)), .inl (0, 32, .inl (vSt v)), .inr (2, [.ref 41, .ref 42]), .inl (0, 64, .inl (vAd v)), .inl (0, 32, .inl (vGa v)), .inl (0, 4, .inl (vLe v)), .inl (0, 16, .inl (vCo v))]
abbrev st45 (v : gV) : List gE := [.inr (4, [.ref 46, .ref 50, .ref 53, .ref 54, .int (vEp v), .int (vAc v)]), .inr (3, [.ref 47, .ref 48, .ref 49]), .inl (0, 8, .inl (vOw v)), .inl (0, 32, .inl (vHd v)), .inl (0, 32, .inl (vSt v)), .inr (2, [.ref 51, .ref 52]), .inl (0, 64, .inl (vAd v)), .inl (0, 32, .inl (vGa v)), .inl (0, 4, .inl (vLe v)), .inl (0, 16, .inl (vCo v))]
abbrev st55 (v : gV) : List gE := [.inr (4, [.ref 56, .ref 60, .ref 63, .ref 64, .int (vEp v), .int (vAc v)]), .inr (3, [.ref 57, .ref 58, .ref 59]), .inl (0, 8, .inl (vOw v)), .inl (0, 32, .inl (vHd v)), .inl (0, 32, .inl (vSt v)), .inr (2, [.ref 61, .ref 62]), .inl (0, 64, .inl (vAd v)), .inl (0, 32, .inl (vGa v)), .inl (0, 4, .inl (vLe v)), .inl (0, 16, .inl (vCo v))]
abbrev st65 (v : gV) : List gE := [.inr (4, [.ref 66, .ref 70, .ref 73, .ref 74, .int (vEp v), .int (vAc v)]), .inr (3, [.ref 67, .ref 68, .ref 69]), .inl (0, 8, .inl (vOw v)), .inl (0, 32, .inl (vHd v)), .inl (0, 32, .inl (vSt v)), .inr (2, [.ref 71, .ref 72]), .inl (0, 64, .inl (vAd v)), .inl (0, 32, .inl (vGa v)), .inl (0, 4, .inl (vLe v)), .inl (0, 16, .inl (vCo v))]
def hsI : Nat → List gE
  | 0 => .inr (1, [.ref 1, .int (nI 0), .int (nI 0)]) :: .inl (5, 6, .inr (.inr (.inr [none, none, none, none, none, none]))) :: ([])
  | 1 => .inr (1, [.ref 1, .int (nI 0), .int (nI 0)]) :: .inl (5, 6, .inr (.inr (.inr [some 2, none, none, none, none, none]))) :: (st2 vIni ++ ([]))
  | 2 => .inr (1, [.ref 1, .int (nI 0), .int (nI 0)]) :: .inl (5, 6, .inr (.inr (.inr [some 2, some 12, none, none, none, none]))) :: (st2 vIni ++ (st12 vIni ++ ([])))
  | 3 => .inr (1, [.ref 1, .int (nI 0), .int (nI 0)]) :: .inl (5, 6, .inr (.inr (.inr [some 2, some 12, some 22, none, none, none]))) :: (st2 vIni ++ (st12 vIni ++ (st22 vIni ++ ([]))))
  | 4 => .inr (1, [.ref 1, .int (nI 0), .int (nI 0)]) :: .inl (5, 6, .inr (.inr (.inr [some 2, some 12, some 22, some 32, none, none]))) :: (st2 vIni ++ (st12 vIni ++ (st22 vIni ++ (st32 vIni ++ ([])))))
  | 5 => .inr (1, [.ref 1, .int (nI 0), .int (nI 0)]) :: .inl (5, 6, .inr (.inr (.inr [some 2, some 12, some 22, some 32, some 42, none]))) :: (st2 vIni ++ (st12 vIni ++ (st22 vIni ++ (st32 vIni ++ (st42 vIni ++ ([]))))))
  | _ => .inr (1, [.ref 1, .int (nI 0), .int (nI 0)]) :: .inl (5, 6, .inr (.inr (.inr [some 2, some 12, some 22, some 32, some 42, some 52]))) :: (st2 vIni ++ (st12 vIni ++ (st22 vIni ++ (st32 vIni ++ (st42 vIni ++ (st52 vIni ++ ([])))))))
def sX1_init : gS := fun av es K => av = [.ref 0] ∧ es = [.inr (1, [.null, .int 0, .int 0])] ∧ K none (hs0 (fun _ => vIni) (nI 0) (nI 0))
def rmX1_init : Room := { frames := 3, cells := 61, slots := 1200, locals := 102 }
def pX1_init (K : gK) : List (Nat × gO) := [(0, oF (oALoad 0)), (1, oObj 102), (4, oALoad 0), (5, oConst (nI 6)), (7, oNewQ 61 1200 1), (10, oF (oPutR 1 0)), (13, oF (oALoad 0)), (14, oConst (nI 0)), (15, oPutI 1 1), (18, oF (oALoad 0)), (19, oConst (nI 0)), (20, oPutI 1 2), (23, oConst (nI 0)), (24, oF (oIStore 2 1)), (25, oF (oILoad 1)), (26, oConst (nI 6)), (28, oICmp_ge 50), (31, oALoad 0), (32, oGet 1 0), (35, oILoad 1), (36, oNew 61 1200 1 4 6 [.null, .null, .null, .null, .int 0, .int 0]), (39, oF (oDup)), (40, oCallI 61 1200 9 193 1 sX4_init), (43, oF (oAASt)), (44, oIInc 2 1 (nI 1)), (47, oGoto 25), (50, oF (oRetV K 61 1200))]
set_option maxRecDepth 100000 in
theorem kX1_init {X : gX} {l : Launch} (hM : gM X l cX1_init RX1 wsX1_init rmX1_init) {K : gK} (hE : gR X K 61 1200 none) (hin : gInit X) (hA0 : gN0 X 1) (hnL : X.2.2.2.2.2.2.2.2.2.2.2.2.2.2.2.2 = 2) : okL X (pX1_init K) := by
  obtain ⟨p, l1, e, R, s, m, args, below, meth, c, D, cA, A, ag, ad0, Q, nL⟩ := X
  cases hnL
  refine ⟨ok_F (ok_aload_n hM 0 dX1_init_0 rfl),
    ok_obj hM (List.mem_of_getElem? (i := 1) rfl) (List.mem_of_getElem? (i := 2) rfl) (List.mem_of_getElem? (i := 3) rfl) (by decide) dX1_init_1,
    ok_aload_n hM 0 dX1_init_4 rfl,
    ok_bipush hM dX1_init_5 rfl,
    ok_newq hM hA0 (List.mem_of_getElem? (i := 4) rfl) dX1_init_7,
    ok_F (ok_putRAF (ct := (.object "PartitionedCache$State")) (C := RX1) (T := TX1) (Nf := 3) hM (fun _ h => List.mem_cons_of_mem _ (List.mem_append_left _ (List.mem_append_left _ (List.mem_append_left _ (List.mem_append_right _ h))))) tyX1 tyX1_ok nmX1 rfl 0 (by decide) (List.mem_of_getElem? (i := 5) rfl) rfl rfl hin rfl (by decide +kernel) dX1_init_10),
    ok_F (ok_aload_n hM 0 dX1_init_13 rfl),
    ok_iconst hM dX1_init_14 rfl,
    ok_putI (C := RX1) (T := TX1) (Nf := 3) hM (fun _ h => List.mem_cons_of_mem _ (List.mem_append_left _ (List.mem_append_left _ (List.mem_append_left _ (List.mem_append_right _ h))))) tyX1 tyX1_ok nmX1 rfl 1 (by decide) (List.mem_of_getElem? (i := 6) rfl) rfl rfl (by decide +kernel) dX1_init_15,
    ok_F (ok_aload_n hM 0 dX1_init_18 rfl),
    ok_iconst hM dX1_init_19 rfl,
    ok_putI (C := RX1) (T := TX1) (Nf := 3) hM (fun _ h => List.mem_cons_of_mem _ (List.mem_append_left _ (List.mem_append_left _ (List.mem_append_left _ (List.mem_append_right _ h))))) tyX1 tyX1_ok nmX1 rfl 2 (by decide) (List.mem_of_getElem? (i := 7) rfl) rfl rfl (by decide +kernel) dX1_init_20,
    ok_iconst hM dX1_init_23 rfl,
    ok_F (ok_istore_n hM 1 dX1_init_24 rfl),
    ok_F (ok_iload_n hM 1 dX1_init_25 rfl),
    ok_bipush hM dX1_init_26 rfl,
    ok_icmp_ge hM 50 dX1_init_28 (by decide),
    ok_aload_n hM 0 dX1_init_31 rfl,
    ok_get (C := RX1) (T := TX1) (Nf := 3) hM (fun _ h => List.mem_cons_of_mem _ (List.mem_append_left _ (List.mem_append_left _ (List.mem_append_left _ (List.mem_append_right _ h))))) rfl 0 (by decide) (List.mem_of_getElem? (i := 5) rfl) rfl dX1_init_32,
    ok_iload_n hM 1 dX1_init_35 rfl,
    ok_new (C := RX4) (T := TX4) hM hA0 (fun _ h => List.mem_cons_of_mem _ (List.mem_append_left _ (List.mem_append_left _ (List.mem_append_right _ h)))) tyX4 tyX4_ok (List.mem_of_getElem? (i := 4) rfl) (List.mem_of_getElem? (i := 8) rfl) (List.mem_of_getElem? (i := 9) rfl) rfl (by decide) dX1_init_36,
    ok_F (ok_dup hM dX1_init_39),
    ok_callI hM hA0 (ctX4_init l) gX1_init_X4_init rfl rfl rfl (List.mem_of_getElem? (i := 10) rfl) (List.mem_of_getElem? (i := 9) rfl) (List.mem_of_getElem? (i := 11) rfl) rfl (by decide +kernel) (by decide) dX1_init_40,
    ok_F (ok_aast hM dX1_init_43),
    ok_iinc hM 1 dX1_init_44 rfl,
    ok_goto hM 25 dX1_init_47 (by decide),
    ok_F (ok_retV hM hE dX1_init_50),
    trivial⟩
set_option maxRecDepth 100000 in
theorem ctX1_init (l : Launch) : Ct l yX1_init wsX1_init rmX1_init 61 1200 true sX1_init := by
  refine ct_of (own := RX1) (cc := cX1_init) (maxL := 2) (ret := none) (by decide) rfl rfl (by rintro _ _ _ ⟨rfl, rfl, hK⟩; exact Nat.le_of_ble_eq_true rfl) ?_
  intro X av es K hM hE hag hin hnL hsp
  obtain ⟨rfl, rfl, hK⟩ := hsp
  have hf := kX1_init hM hE (hin rfl) (gN0_of hag) hnL
  refine g_with (X := X) 25 [0, 1] (fun μ vs es k n => ∃ i : Nat, μ = 6 - i ∧ i ≤ 6 ∧ vs = [.ref 0, .int (nI i)] ∧ es = hsI i ∧ k = 1 + 10 * i ∧ n = 6 + 199 * i) cut_nil (fun μ hc vs es k n hI => ?_) (fun hc => ?_)
  · obtain ⟨i, rfl, hi, rfl, rfl, rfl, rfl⟩ := hI
    have hi2 : i = 0 ∨ i = 1 ∨ i = 2 ∨ i = 3 ∨ i = 4 ∨ i = 5 ∨ i = 6 := by omega
    rcases hi2 with rfl | rfl | rfl | rfl | rfl | rfl | rfl
    · refine g_go hf hc 5 ?_
      refine ⟨fun h => absurd h (by decide +kernel), fun _ => ?_⟩
      refine ⟨2, rfl, ?_⟩
      refine ⟨3, rfl, rfl, rfl, ?_⟩
      refine ⟨0, rfl, by decide, ?_⟩
      exact ⟨6 - 1, by decide, 1, rfl, by decide, by rw [nI_add], rfl, rfl, rfl⟩
    · refine g_go hf hc 5 ?_
      refine ⟨fun h => absurd h (by decide +kernel), fun _ => ?_⟩
      refine ⟨12, rfl, ?_⟩
      refine ⟨13, rfl, rfl, rfl, ?_⟩
      refine ⟨1, rfl, by decide, ?_⟩
      exact ⟨6 - 2, by decide, 2, rfl, by decide, by rw [nI_add], rfl, rfl, rfl⟩
    · refine g_go hf hc 5 ?_
      refine ⟨fun h => absurd h (by decide +kernel), fun _ => ?_⟩
      refine ⟨22, rfl, ?_⟩
      refine ⟨23, rfl, rfl, rfl, ?_⟩
      refine ⟨2, rfl, by decide, ?_⟩
      exact ⟨6 - 3, by decide, 3, rfl, by decide, by rw [nI_add], rfl, rfl, rfl⟩
    · refine g_go hf hc 5 ?_
      refine ⟨fun h => absurd h (by decide +kernel), fun _ => ?_⟩
      refine ⟨32, rfl, ?_⟩
      refine ⟨33, rfl, rfl, rfl, ?_⟩
      refine ⟨3, rfl, by decide, ?_⟩
      exact ⟨6 - 4, by decide, 4, rfl, by decide, by rw [nI_add], rfl, rfl, rfl⟩
    · refine g_go hf hc 5 ?_
      refine ⟨fun h => absurd h (by decide +kernel), fun _ => ?_⟩
      refine ⟨42, rfl, ?_⟩
      refine ⟨43, rfl, rfl, rfl, ?_⟩
      refine ⟨4, rfl, by decide, ?_⟩
      exact ⟨6 - 5, by decide, 5, rfl, by decide, by rw [nI_add], rfl, rfl, rfl⟩
    · refine g_go hf hc 5 ?_
      refine ⟨fun h => absurd h (by decide +kernel), fun _ => ?_⟩
      refine ⟨52, rfl, ?_⟩
      refine ⟨53, rfl, rfl, rfl, ?_⟩
      refine ⟨5, rfl, by decide, ?_⟩
      exact ⟨6 - 6, by decide, 6, rfl, by decide, by rw [nI_add], rfl, rfl, rfl⟩
    · refine g_go hf hc 5 ?_
      refine ⟨fun _ => ?_, fun h => absurd (by decide +kernel) h⟩
      exact hK
  · refine wr_ok hf hc 5 0 _ _ _ _ _ ?_
    refine ⟨1, 6, rfl, rfl, ?_⟩
    exact ⟨6, 0, rfl, by decide, rfl, rfl, rfl, rfl⟩
abbrev hs13 (H : Nat → gV) (old sz : Int32) (r : List gE) : List gE := .inr (1, [.ref 14, .int old, .int sz]) :: .inl (5, 6, .inr (.inr (.inr [some 15, some 25, some 35, some 45, some 55, some 65]))) :: (st15 (H 0) ++ (st25 (H 1) ++ (st35 (H 2) ++ (st45 (H 3) ++ (st55 (H 4) ++ (st65 (H 5) ++ r))))))
/-- the whole cache as its constructor lays it -/
abbrev cr0 (r : List gE) : List gE := pcO 1 11 13 75 77 78 :: (st1 vIni ++ (.inr (5, [.ref 12]) :: .inl (0, 4, .inl z0I) :: hs13 (fun _ => vIni) (nI 0) (nI 0) (.inr (0, [.ref 76, .int (nI 0)]) :: .inl (1, 80, .inl z0I) :: r)))
def crI : Nat → List gE
  | 0 => cr0 (.inl (5, 2, .inr (.inr (.inr [none, none]))) :: .inl (2, 2, .inl z0I) :: ([]))
  | 1 => cr0 (.inl (5, 2, .inr (.inr (.inr [some 79, none]))) :: .inl (2, 2, .inl z0I) :: (st79 vIni ++ ([])))
  | _ => cr0 (.inl (5, 2, .inr (.inr (.inr [some 79, some 89]))) :: .inl (2, 2, .inl z0I) :: (st79 vIni ++ (st89 vIni ++ ([]))))
def sX6_init : gS := fun av es K => av = [.ref 0] ∧ es = [.inr (6, [.null, .null, .null, .null, .null, .null])] ∧ K none (cr0 (slX z0I vIni vIni))
def rmX6_init : Room := { frames := 4, cells := 98, slots := 1891, locals := 123 }
def pX6_init (K : gK) : List (Nat × gO) := [(0, oF (oALoad 0)), (1, oObj 123), (4, oALoad 0), (5, oNew 98 1891 1 4 6 [.null, .null, .null, .null, .int 0, .int 0]), (8, oF (oDup)), (9, oCallI 98 1891 9 193 1 sX4_init), (12, oF (oPutR 6 0)), (15, oF (oALoad 0)), (16, oNew 98 1891 1 5 1 [.null]), (19, oF (oDup)), (20, oCallI 98 1891 1 4 1 sX5_init), (23, oF (oPutR 6 1)), (26, oF (oALoad 0)), (27, oNew 98 1891 1 1 3 [.null, .int 0, .int 0]), (30, oF (oDup)), (31, oCallI 98 1891 61 1200 1 sX1_init), (34, oF (oPutR 6 2)), (37, oF (oALoad 0)), (38, oNew 98 1891 1 0 2 [.null, .int 0]), (41, oF (oDup)), (42, oCallI 98 1891 1 80 1 sX0_init), (45, oF (oPutR 6 3)), (48, oF (oALoad 0)), (49, oConst (nI 2)), (50, oNewQ 98 1891 1), (53, oF (oPutR 6 4)), (56, oF (oALoad 0)), (57, oConst (nI 2)), (58, oNewA 98 1891 1 2), (60, oF (oPutR 6 5)), (63, oConst (nI 0)), (64, oF (oIStore 2 1)), (65, oF (oILoad 1)), (66, oConst (nI 2)), (67, oICmp_ge 89), (70, oALoad 0), (71, oGet 6 4), (74, oILoad 1), (75, oNew 98 1891 1 4 6 [.null, .null, .null, .null, .int 0, .int 0]), (78, oF (oDup)), (79, oCallI 98 1891 9 193 1 sX4_init), (82, oF (oAASt)), (83, oIInc 2 1 (nI 1)), (86, oGoto 65), (89, oF (oRetV K 98 1891))]
set_option maxRecDepth 100000 in
theorem kX6_init {X : gX} {l : Launch} (hM : gM X l cX6_init RX6 wsX6_init rmX6_init) {K : gK} (hE : gR X K 98 1891 none) (hin : gInit X) (hA0 : gN0 X 1) (hnL : X.2.2.2.2.2.2.2.2.2.2.2.2.2.2.2.2 = 2) : okL X (pX6_init K) := by
  obtain ⟨p, l1, e, R, s, m, args, below, meth, c, D, cA, A, ag, ad0, Q, nL⟩ := X
  cases hnL
  refine ⟨ok_F (ok_aload_n hM 0 dX6_init_0 rfl),
    ok_obj hM (List.mem_of_getElem? (i := 1) rfl) (List.mem_of_getElem? (i := 2) rfl) (List.mem_of_getElem? (i := 3) rfl) (by decide) dX6_init_1,
    ok_aload_n hM 0 dX6_init_4 rfl,
    ok_new (C := RX4) (T := TX4) hM hA0 (fun _ h => List.mem_cons_of_mem _ (List.mem_append_left _ (List.mem_append_left _ (List.mem_append_left _ (List.mem_append_left _ (List.mem_append_left _ (List.mem_append_left _ (List.mem_append_right _ h)))))))) tyX4 tyX4_ok (List.mem_of_getElem? (i := 4) rfl) (List.mem_of_getElem? (i := 5) rfl) (List.mem_of_getElem? (i := 6) rfl) rfl (by decide) dX6_init_5,
    ok_F (ok_dup hM dX6_init_8),
    ok_callI hM hA0 (ctX4_init l) gX6_init_X4_init rfl rfl rfl (List.mem_of_getElem? (i := 23) rfl) (List.mem_of_getElem? (i := 6) rfl) (List.mem_of_getElem? (i := 24) rfl) rfl (by decide +kernel) (by decide) dX6_init_9,
    ok_F (ok_putRF (cn := "PartitionedCache$State") (C := RX6) (T := TX6) (Nf := 6) hM (fun _ h => List.mem_cons_of_mem _ (List.mem_append_left _ (List.mem_append_left _ (List.mem_append_left _ (List.mem_append_left _ (List.mem_append_left _ (List.mem_append_right _ h))))))) tyX6 tyX6_ok nmX6 rfl 0 (by decide) (List.mem_of_getElem? (i := 7) rfl) rfl rfl hin rfl (by decide +kernel) dX6_init_12),
    ok_F (ok_aload_n hM 0 dX6_init_15 rfl),
    ok_new (C := RX5) (T := TX5) hM hA0 (fun _ h => List.mem_cons_of_mem _ (List.mem_append_left _ (List.mem_append_left _ (List.mem_append_left _ (List.mem_append_left _ (List.mem_append_right _ h)))))) tyX5 tyX5_ok (List.mem_of_getElem? (i := 8) rfl) (List.mem_of_getElem? (i := 9) rfl) (List.mem_of_getElem? (i := 10) rfl) rfl (by decide) dX6_init_16,
    ok_F (ok_dup hM dX6_init_19),
    ok_callIN hM hA0 (ctX5_init l) gX6_init_X5_init_n18 rfl rfl rfl (by decide) (List.mem_of_getElem? (i := 10) rfl) (List.mem_of_getElem? (i := 53) rfl) rfl (by decide +kernel) (by decide) dX6_init_20,
    ok_F (ok_putRF (cn := "PartitionedCache$Targets") (C := RX6) (T := TX6) (Nf := 6) hM (fun _ h => List.mem_cons_of_mem _ (List.mem_append_left _ (List.mem_append_left _ (List.mem_append_left _ (List.mem_append_left _ (List.mem_append_left _ (List.mem_append_right _ h))))))) tyX6 tyX6_ok nmX6 rfl 1 (by decide) (List.mem_of_getElem? (i := 11) rfl) rfl rfl hin rfl (by decide +kernel) dX6_init_23),
    ok_F (ok_aload_n hM 0 dX6_init_26 rfl),
    ok_new (C := RX1) (T := TX1) hM hA0 (fun _ h => List.mem_cons_of_mem _ (List.mem_append_left _ (List.mem_append_left _ (List.mem_append_left _ (List.mem_append_right _ h))))) tyX1 tyX1_ok (List.mem_of_getElem? (i := 12) rfl) (List.mem_of_getElem? (i := 13) rfl) (List.mem_of_getElem? (i := 14) rfl) rfl (by decide) dX6_init_27,
    ok_F (ok_dup hM dX6_init_30),
    ok_callI hM hA0 (ctX1_init l) gX6_init_X1_init rfl rfl rfl (List.mem_of_getElem? (i := 57) rfl) (List.mem_of_getElem? (i := 14) rfl) (List.mem_of_getElem? (i := 58) rfl) rfl (by decide +kernel) (by decide) dX6_init_31,
    ok_F (ok_putRF (cn := "PartitionedCache$History") (C := RX6) (T := TX6) (Nf := 6) hM (fun _ h => List.mem_cons_of_mem _ (List.mem_append_left _ (List.mem_append_left _ (List.mem_append_left _ (List.mem_append_left _ (List.mem_append_left _ (List.mem_append_right _ h))))))) tyX6 tyX6_ok nmX6 rfl 2 (by decide) (List.mem_of_getElem? (i := 15) rfl) rfl rfl hin rfl (by decide +kernel) dX6_init_34),
    ok_F (ok_aload_n hM 0 dX6_init_37 rfl),
    ok_new (C := RX0) (T := TX0) hM hA0 (fun _ h => List.mem_cons_of_mem _ (List.mem_append_left _ (List.mem_append_left _ (List.mem_append_right _ h)))) tyX0 tyX0_ok (List.mem_of_getElem? (i := 16) rfl) (List.mem_of_getElem? (i := 17) rfl) (List.mem_of_getElem? (i := 18) rfl) rfl (by decide) dX6_init_38,
    ok_F (ok_dup hM dX6_init_41),
    ok_callIN hM hA0 (ctX0_init l) gX6_init_X0_init_n32 rfl rfl rfl (by decide) (List.mem_of_getElem? (i := 18) rfl) (List.mem_of_getElem? (i := 66) rfl) rfl (by decide +kernel) (by decide) dX6_init_42,
    ok_F (ok_putRF (cn := "PartitionedCache$CommandText") (C := RX6) (T := TX6) (Nf := 6) hM (fun _ h => List.mem_cons_of_mem _ (List.mem_append_left _ (List.mem_append_left _ (List.mem_append_left _ (List.mem_append_left _ (List.mem_append_left _ (List.mem_append_right _ h))))))) tyX6 tyX6_ok nmX6 rfl 3 (by decide) (List.mem_of_getElem? (i := 19) rfl) rfl rfl hin rfl (by decide +kernel) dX6_init_45),
    ok_F (ok_aload_n hM 0 dX6_init_48 rfl),
    ok_iconst hM dX6_init_49 rfl,
    ok_newq hM hA0 (List.mem_of_getElem? (i := 4) rfl) dX6_init_50,
    ok_F (ok_putRAF (ct := (.object "PartitionedCache$State")) (C := RX6) (T := TX6) (Nf := 6) hM (fun _ h => List.mem_cons_of_mem _ (List.mem_append_left _ (List.mem_append_left _ (List.mem_append_left _ (List.mem_append_left _ (List.mem_append_left _ (List.mem_append_right _ h))))))) tyX6 tyX6_ok nmX6 rfl 4 (by decide) (List.mem_of_getElem? (i := 20) rfl) rfl rfl hin rfl (by decide +kernel) dX6_init_53),
    ok_F (ok_aload_n hM 0 dX6_init_56 rfl),
    ok_iconst hM dX6_init_57 rfl,
    ok_newa2 hM hA0 (List.mem_of_getElem? (i := 21) rfl) dX6_init_58,
    ok_F (ok_putRAF (ct := .boolean) (C := RX6) (T := TX6) (Nf := 6) hM (fun _ h => List.mem_cons_of_mem _ (List.mem_append_left _ (List.mem_append_left _ (List.mem_append_left _ (List.mem_append_left _ (List.mem_append_left _ (List.mem_append_right _ h))))))) tyX6 tyX6_ok nmX6 rfl 5 (by decide) (List.mem_of_getElem? (i := 22) rfl) rfl rfl hin rfl (by decide +kernel) dX6_init_60),
    ok_iconst hM dX6_init_63 rfl,
    ok_F (ok_istore_n hM 1 dX6_init_64 rfl),
    ok_F (ok_iload_n hM 1 dX6_init_65 rfl),
    ok_iconst hM dX6_init_66 rfl,
    ok_icmp_ge hM 89 dX6_init_67 (by decide),
    ok_aload_n hM 0 dX6_init_70 rfl,
    ok_get (C := RX6) (T := TX6) (Nf := 6) hM (fun _ h => List.mem_cons_of_mem _ (List.mem_append_left _ (List.mem_append_left _ (List.mem_append_left _ (List.mem_append_left _ (List.mem_append_left _ (List.mem_append_right _ h))))))) rfl 4 (by decide) (List.mem_of_getElem? (i := 20) rfl) rfl dX6_init_71,
    ok_iload_n hM 1 dX6_init_74 rfl,
    ok_new (C := RX4) (T := TX4) hM hA0 (fun _ h => List.mem_cons_of_mem _ (List.mem_append_left _ (List.mem_append_left _ (List.mem_append_left _ (List.mem_append_left _ (List.mem_append_left _ (List.mem_append_left _ (List.mem_append_right _ h)))))))) tyX4 tyX4_ok (List.mem_of_getElem? (i := 4) rfl) (List.mem_of_getElem? (i := 5) rfl) (List.mem_of_getElem? (i := 6) rfl) rfl (by decide) dX6_init_75,
    ok_F (ok_dup hM dX6_init_78),
    ok_callI hM hA0 (ctX4_init l) gX6_init_X4_init rfl rfl rfl (List.mem_of_getElem? (i := 23) rfl) (List.mem_of_getElem? (i := 6) rfl) (List.mem_of_getElem? (i := 24) rfl) rfl (by decide +kernel) (by decide) dX6_init_79,
    ok_F (ok_aast hM dX6_init_82),
    ok_iinc hM 1 dX6_init_83 rfl,
    ok_goto hM 65 dX6_init_86 (by decide),
    ok_F (ok_retV hM hE dX6_init_89),
    trivial⟩
set_option maxRecDepth 100000 in
theorem ctX6_init (l : Launch) : Ct l yX6_init wsX6_init rmX6_init 98 1891 true sX6_init := by
  refine ct_of (own := RX6) (cc := cX6_init) (maxL := 2) (ret := none) (by decide) rfl rfl (by rintro _ _ _ ⟨rfl, rfl, hK⟩; exact Nat.le_of_ble_eq_true rfl) ?_
  intro X av es K hM hE hag hin hnL hsp
  obtain ⟨rfl, rfl, hK⟩ := hsp
  have hf := kX6_init hM hE (hin rfl) (gN0_of hag) hnL
  refine g_with (X := X) 65 [0, 1] (fun μ vs es k n => ∃ i : Nat, μ = 2 - i ∧ i ≤ 2 ∧ vs = [.ref 0, .int (nI i)] ∧ es = crI i ∧ k = 78 + 10 * i ∧ n = 1493 + 199 * i) cut_nil (fun μ hc vs es k n hI => ?_) (fun hc => ?_)
  · obtain ⟨i, rfl, hi, rfl, rfl, rfl, rfl⟩ := hI
    have hi2 : i = 0 ∨ i = 1 ∨ i = 2 := by omega
    rcases hi2 with rfl | rfl | rfl
    · refine g_go hf hc 5 ?_
      refine ⟨fun h => absurd h (by decide +kernel), fun _ => ?_⟩
      refine ⟨79, rfl, ?_⟩
      refine ⟨80, rfl, rfl, rfl, ?_⟩
      refine ⟨0, rfl, by decide, ?_⟩
      exact ⟨2 - 1, by decide, 1, rfl, by decide, by rw [nI_add], rfl, rfl, rfl⟩
    · refine g_go hf hc 5 ?_
      refine ⟨fun h => absurd h (by decide +kernel), fun _ => ?_⟩
      refine ⟨89, rfl, ?_⟩
      refine ⟨90, rfl, rfl, rfl, ?_⟩
      refine ⟨1, rfl, by decide, ?_⟩
      exact ⟨2 - 2, by decide, 2, rfl, by decide, by rw [nI_add], rfl, rfl, rfl⟩
    · refine g_go hf hc 5 ?_
      refine ⟨fun _ => ?_, fun h => absurd (by decide +kernel) h⟩
      exact hK
  · refine wr_ok hf hc 5 0 _ _ _ _ _ ?_
    refine ⟨1, rfl, ?_⟩
    refine ⟨2, rfl, rfl, rfl, ?_⟩
    refine ⟨11, rfl, ?_⟩
    refine ⟨12, rfl, rfl, rfl, ?_⟩
    refine ⟨13, rfl, ?_⟩
    refine ⟨14, rfl, rfl, rfl, ?_⟩
    refine ⟨75, rfl, ?_⟩
    refine ⟨76, rfl, rfl, rfl, ?_⟩
    refine ⟨77, 2, rfl, rfl, ?_⟩
    refine ⟨78, 2, rfl, rfl, ?_⟩
    exact ⟨2, 0, rfl, by decide, rfl, rfl, rfl, rfl⟩
end MI3

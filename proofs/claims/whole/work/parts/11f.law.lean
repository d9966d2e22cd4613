/-! The law's beginning. -/
section LIN
def lwIds : List Nat := [0, 1, 2, 3, 4, 5, 6, 7, 8, 9, 10, 11, 12, 75, 76, 13, 14, 15, 16, 17, 18, 19, 20, 21, 22, 23, 24, 25, 26, 27, 28, 29, 30, 31, 32, 33, 34, 35, 36, 37, 38, 39, 40, 41, 42, 43, 44, 45, 46, 47, 48, 49, 50, 51, 52, 53, 54, 55, 56, 57, 58, 59, 60, 61, 62, 63, 64, 65, 66, 67, 68, 69, 70, 71, 72, 73, 74, 77, 78, 79, 80, 81, 82, 83, 84, 85, 86, 87, 88, 89, 90, 91, 92, 93, 94, 95, 96, 97, 98, 106, 107, 99, 100, 101, 102, 103, 104, 105]
theorem lmap_can {ids : List Nat} {ad : Nat → Nat} (h : ids.length ≤ 1000) : ∀ (ks : List Nat) (vs : List Value), lmap (fun k => ad (gid ids k)) (ks.zip (vs.map (canV ids))) = lmap ad (ks.zip vs)
  | [], _ => rfl
  | _ :: _, [] => rfl
  | k :: ks, v :: vs => by
    have := lmap_can (ad := ad) h ks vs
    simp only [lmap, List.map_cons, List.zip_cons_cons] at this ⊢
    rw [this, can_v h]
theorem G_perm {p : Program} {l : Launch} {e : Env} {R : Room} {s : State} {m : MethodId} {args : Array Value} {below : List Frame} {meth : Method} {c : Code} {D : va_G} {cA : Nat → ClassId} {A : Nat → Prop} {Q : State → Prop} {nL b pc : Nat} {ks : List Nat} {vs : List Value} {es esc : List gE} {ids : List Nat} {k n : Nat} (hp : gpick es ids = some esc) (hok : ids.length ≤ 1000) (hn : va_nd ids = true) (h9 : gid ids 1999 = 999)
    (h : G ((p, l, e, R, s, m, args, below, meth, c, D, cA, A, (fun i => i = 1999), (fun _ => b), Q, nL) : gX) pc (ks.zip (vs.map (canV ids))) [] (esc.map (canE ids)) k n) : G ((p, l, e, R, s, m, args, below, meth, c, D, cA, A, (fun i => i = 999), (fun _ => b), Q, nL) : gX) pc (ks.zip vs) [] es k n := by
  intro ad H locs ls hag hP hD hS hl
  refine h (fun k => ad (gid ids k)) H locs ls (fun i hi => ?_) (gsub_P hp hok hP) (gsub_D hp hok hn hD (fun _ h => h)) hS (by rw [lmap_can hok]; exact hl)
  have hi2 : i = 1999 := hi
  subst hi2
  show ad (gid ids 1999) = b
  rw [h9]
  exact hag 999 rfl
def lwJ : List Value → List gE → Nat → Nat → Prop := fun vs es k n => vs = [.ref 999, .ref 0, .ref 99, .ref 106, .ref 107, .int (nI 0)] ∧ (∃ esc, gpick es lwIds = some esc ∧ esc.map (canE lwIds) = lwE cIni z0I (fun _ => 0) (fun _ => 0) (r101 (mdI rIni))) ∧ k ≤ 200 ∧ n ≤ 5000
def q_init : List (Nat × gO) := [(0, oF (oNew9 601024 7293034 6 6 [.null, .null, .null, .null, .null, .null])), (3, oF (oDup)), (4, oCallI9 601024 7293034 98 1891 sX6_init), (7, oF (oAStore 9 1)), (8, oNew9 601024 7293034 7 11 [.null, .null, .null, .null, .int 0, .null, .null, .int 0, .int 0, .int 0, .int 0]), (11, oF (oDup)), (12, oCallI9 601024 7293034 6 1940 sX7_init), (15, oF (oAStore 9 2)), (16, oConst (nI 1)), (17, oNewA9 601024 7293034 3), (19, oF (oAStore 9 3)), (20, oConst (nI 1)), (21, oNewA9 601024 7293034 4), (23, oF (oAStore 9 4)), (25, oConst (nI 0)), (26, oIStore 9 5), (28, fun _ _ _ _ _ _ _ => False)]
set_option maxRecDepth 100000 in
theorem kq_init {X : gX} {l : Launch} (hM : gM X l code RL wsL_law room_1) (hA9 : gN9 X) (hnL : X.2.2.2.2.2.2.2.2.2.2.2.2.2.2.2.2 = 9) : okL X q_init := by
  obtain ⟨p, l1, e, R, s, m, args, below, meth, c, D, cA, A, ag, ad0, Q, nL⟩ := X
  cases hnL
  refine ⟨ok_F (ok_new9 (C := RX6) (T := TX6) hM hA9 inlX6 tyX6 tyX6_ok (List.mem_of_getElem? (i := 0) rfl) (List.mem_of_getElem? (i := 1) rfl) (List.mem_of_getElem? (i := 2) rfl) rfl (by decide) dL_law_0),
    ok_F (ok_dup hM dL_law_3),
    ok_callI9 hM hA9 (ctX6_init l) gL_law_X6_init rfl rfl rfl (List.mem_of_getElem? (i := 8) rfl) (List.mem_of_getElem? (i := 2) rfl) (List.mem_of_getElem? (i := 9) rfl) rfl (by decide +kernel) (by decide) dL_law_4,
    ok_F (ok_astore_n hM 1 dL_law_7 rfl),
    ok_new9 (C := RX7) (T := TX7) hM hA9 inlX7 tyX7 tyX7_ok (List.mem_of_getElem? (i := 3) rfl) (List.mem_of_getElem? (i := 4) rfl) (List.mem_of_getElem? (i := 5) rfl) rfl (by decide) dL_law_8,
    ok_F (ok_dup hM dL_law_11),
    ok_callI9 hM hA9 (ctX7_init l) gL_law_X7_init rfl rfl rfl (List.mem_of_getElem? (i := 82) rfl) (List.mem_of_getElem? (i := 5) rfl) (List.mem_of_getElem? (i := 83) rfl) rfl (by decide +kernel) (by decide) dL_law_12,
    ok_F (ok_astore_n hM 2 dL_law_15 rfl),
    ok_iconst hM dL_law_16 rfl,
    ok_newa39 hM hA9 (List.mem_of_getElem? (i := 6) rfl) dL_law_17,
    ok_F (ok_astore_n hM 3 dL_law_19 rfl),
    ok_iconst hM dL_law_20 rfl,
    ok_newa49 hM hA9 (List.mem_of_getElem? (i := 7) rfl) dL_law_21,
    ok_F (ok_astore hM 4 dL_law_23),
    ok_iconst hM dL_law_25 rfl,
    ok_istore hM 5 dL_law_26,
    fun _ _ _ _ _ _ _ _ _ h => h.elim,
    trivial⟩
set_option maxRecDepth 100000 in
theorem law_first {X : gX} {l : Launch} (hM : gM X l code RL wsL_law room_1) (hA9 : gN9 X) (hnL : X.2.2.2.2.2.2.2.2.2.2.2.2.2.2.2.2 = 9) (hc : cutOK X [(28, lwK, lwJ)]) : G X 0 [(0, .ref 999)] [] [] 0 0 := by
  have hf := kq_init hM hA9 hnL
  refine wr_ok hf hc 9 0 _ _ _ _ _ ?_
  refine ⟨0, rfl, ?_⟩
  refine ⟨1, rfl, ?_⟩
  refine ⟨rfl, rfl, ?_⟩
  refine ⟨99, rfl, ?_⟩
  refine ⟨100, rfl, ?_⟩
  refine ⟨rfl, rfl, ?_⟩
  refine ⟨106, 1, rfl, rfl, ?_⟩
  refine ⟨107, 1, rfl, rfl, ?_⟩
  exact ⟨rfl, ⟨_, rfl, rfl⟩, Nat.le_of_ble_eq_true rfl, Nat.le_of_ble_eq_true rfl⟩
theorem law_all {p : Program} {l : Launch} {e : Env} {R : Room} {s : State} {m : MethodId} {args : Array Value} {below : List Frame} {meth : Method} {c : Code} {D : va_G} {cA : Nat → ClassId} {A : Nat → Prop} {Q : State → Prop} {b Ls : Nat} {xs : Nat → Int32} (hLs : Ls ≤ 2560)
    (h : lawX ((p, l, e, R, s, m, args, below, meth, c, D, cA, A, (fun i => i = 1999), (fun _ => b), Q, 9) : gX) l b Ls xs) : G ((p, l, e, R, s, m, args, below, meth, c, D, cA, A, (fun i => i = 999), (fun _ => b), Q, 9) : gX) 0 [(0, .ref 999)] [] [] 0 0 := by
  have hloop := law_loop h hLs
  refine law_first (l := l) h.1 (fun i hi => hi) rfl (fun c0 hm vs es k n hq => ?_)
  obtain rfl := List.mem_singleton.mp hm
  obtain ⟨rfl, ⟨esc, hp, he⟩, hk, hn⟩ := hq
  refine G_perm (ids := lwIds) hp (by decide) (by decide +kernel) rfl ?_
  rw [he]
  exact hloop _ List.mem_cons_self _ _ _ _ ⟨Ls + 5, 0, cIni, z0I, (fun _ => 0), (fun _ => 0), mdI rIni, nI 0, rfl, Nat.zero_le _, inv_ini, mW_ini, rfl, rfl, by omega, by omega⟩
end LIN

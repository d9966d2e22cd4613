/-! The law's beginning. -/
section LG3
def lwIds : List Nat := [0, 1, 2, 3, 4, 5, 6, 7, 8, 9, 10, 11, 12, 75, 76, 13, 14, 15, 16, 17, 18, 19, 20, 21, 22, 23, 24, 25, 26, 27, 28, 29, 30, 31, 32, 33, 34, 35, 36, 37, 38, 39, 40, 41, 42, 43, 44, 45, 46, 47, 48, 49, 50, 51, 52, 53, 54, 55, 56, 57, 58, 59, 60, 61, 62, 63, 64, 65, 66, 67, 68, 69, 70, 71, 72, 73, 74, 77, 78, 79, 80, 81, 82, 83, 84, 85, 86, 87, 88, 89, 90, 91, 92, 93, 94, 95, 96, 97, 98]
def lwJ : List Value → List gE → Nat → Nat → Prop := fun vs es k n => vs = [.ref 999, .ref 0, .int (nI 0)] ∧ (∃ esc, gpick es lwIds = some esc ∧ esc.map (canE lwIds) = wX vIni z0I 0 (fun _ => 0) (fun _ => vIni) 0 0 (slX z0I vIni vIni)) ∧ k ≤ 200 ∧ n ≤ 5000
def q_init : List (Nat × gO) := [(0, oF (oNew9 600104 7301314 6 6 [.null, .null, .null, .null, .null, .null])), (3, oF (oDup)), (4, oCallI9 600104 7301314 98 1891 sX6_init), (7, oF (oAStore 12 1)), (8, oConst (nI 0)), (9, oIStore 12 2), (10, fun _ _ _ _ _ _ _ => False)]
set_option maxRecDepth 100000 in
theorem kq_init {X : gX} {l : Launch} (hM : gM X l code RL wsL_law room_1) (hA9 : gN9 X) (hnL : X.2.2.2.2.2.2.2.2.2.2.2.2.2.2.2.2 = 12) : okL X q_init := by
  obtain ⟨p, l1, e, R, s, m, args, below, meth, c, D, cA, A, ag, ad0, Q, nL⟩ := X
  cases hnL
  refine ⟨ok_F (ok_new9 (C := RX6) (T := TX6) hM hA9 inlX6 tyX6 tyX6_ok (List.mem_of_getElem? (i := 0) rfl) (List.mem_of_getElem? (i := 1) rfl) (List.mem_of_getElem? (i := 2) rfl) rfl (by decide) dL_law_0),
    ok_F (ok_dup hM dL_law_3),
    ok_callI9 hM hA9 (ctX6_init l) gL_law_X6_init rfl rfl rfl (List.mem_of_getElem? (i := 3) rfl) (List.mem_of_getElem? (i := 2) rfl) (List.mem_of_getElem? (i := 4) rfl) rfl (by decide +kernel) (by decide) dL_law_4,
    ok_F (ok_astore_n hM 1 dL_law_7 rfl),
    ok_iconst hM dL_law_8 rfl,
    ok_istore_n hM 2 dL_law_9 rfl,
    fun _ _ _ _ _ _ _ _ _ h => h.elim,
    trivial⟩
set_option maxRecDepth 100000 in
theorem law_first {X : gX} {l : Launch} (hM : gM X l code RL wsL_law room_1) (hA9 : gN9 X) (hnL : X.2.2.2.2.2.2.2.2.2.2.2.2.2.2.2.2 = 12) (hc : cutOK X [(10, [0, 1, 2], lwJ)]) : G X 0 [(0, .ref 999)] [] [] 0 0 := by
  have hf := kq_init hM hA9 hnL
  refine wr_ok hf hc 9 0 _ _ _ _ _ ?_
  refine ⟨0, rfl, ?_⟩
  refine ⟨1, rfl, ?_⟩
  refine ⟨rfl, rfl, ?_⟩
  exact ⟨rfl, ⟨_, rfl, rfl⟩, Nat.le_of_ble_eq_true rfl, Nat.le_of_ble_eq_true rfl⟩
theorem pV_ini : pV vIni 0 := by
  refine ⟨vK_ini, fun p hp c hc e => ?_, fun p q hp hq e hn => ?_, fun q hq => ⟨0, by omega, fun j hj => absurd hj (by omega), fun j _ _ => rfl, fun i j hi hj => absurd hj (by omega)⟩, fun j hj => ⟨0, by omega, rfl⟩, by decide, rfl⟩
  · exact absurd e.symm (nI_m1 (by omega))
  · exact absurd rfl hn
theorem law_all {p : Program} {l : Launch} {e : Env} {R : Room} {s : State} {m : MethodId} {args : Array Value} {below : List Frame} {meth : Method} {c : Code} {D : va_G} {cA : Nat → ClassId} {A : Nat → Prop} {Q : State → Prop} {b Ls : Nat} {xs : Nat → Int32}
    (h : lawX ((p, l, e, R, s, m, args, below, meth, c, D, cA, A, (fun i => i = 1999), (fun _ => b), Q, 12) : gX) l b Ls xs) : G ((p, l, e, R, s, m, args, below, meth, c, D, cA, A, (fun i => i = 999), (fun _ => b), Q, 12) : gX) 0 [(0, .ref 999)] [] [] 0 0 := by
  have hloop := law_loop h
  refine law_first (l := l) h.1 (fun i hi => hi) rfl (fun c0 hm vs es k n hq => ?_)
  obtain rfl := List.mem_singleton.mp hm
  obtain ⟨rfl, ⟨esc, hp, he⟩, hk, hn⟩ := hq
  refine G_perm (ids := lwIds) hp (by decide) (by decide +kernel) rfl ?_
  rw [he, ← List.append_nil (wX vIni z0I 0 (fun _ => 0) (fun _ => vIni) 0 0 (slX z0I vIni vIni))]
  exact hloop _ List.mem_cons_self _ _ _ _ ⟨110, 0, vIni, _, rfl, Nat.zero_le _, ⟨_, _, _, _, _, _, _, _, _, by decide, by decide, rfl⟩, pV_ini, rfl, rfl, by omega, by omega⟩
end LG3

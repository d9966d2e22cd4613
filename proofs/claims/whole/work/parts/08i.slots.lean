/-! PartitionedCache: slots. -/
section MQ8
abbrev pr79 (v : gV) (wy : Nat → Int32) (n : Nat) (ch : Nat → Nat) (H : Nat → gV) (o s : Int32) (sf : Nat → Int32) : List gE := pr15 v wy n ch ++ (hsB H o s ++ [.inl (5, 2, .inr (.inr (.inr [some 79, some 89]))), .inl (2, 2, .inl sf)])
theorem gput_n1 (v : gV) (wy : Nat → Int32) (n : Nat) (ch : Nat → Nat) (H : Nat → gV) (o s : Int32) (sf : Nat → Int32) (z0 z1 v' : gV) : gput (w13 v wy (txc n ch (hs15 H o s (slX sf z0 z1)))) (List.range' 1 10) (st1 v') = w13 v' wy (txc n ch (hs15 H o s (slX sf z0 z1))) := gput_blk (st1 v) [pcO 1 11 15 13 77 78] (.inr (5, [.ref 12]) :: .inl (0, 4, .inl wy) :: txc n ch (hs15 H o s (slX sf z0 z1))) (st1 v') rfl
theorem gput_79 (v : gV) (wy : Nat → Int32) (n : Nat) (ch : Nat → Nat) (H : Nat → gV) (o s : Int32) (sf : Nat → Int32) (z0 z1 v' : gV) : gput (w13 v wy (txc n ch (hs15 H o s (slX sf z0 z1)))) (List.range' 79 10) (st79 v') = w13 v wy (txc n ch (hs15 H o s (slX sf v' z1))) := by
  have e1 : gput (pr79 v wy n ch H o s sf ++ (st79 z0 ++ st89 z1)) (List.range' 79 10) (st79 v') = pr79 v wy n ch H o s sf ++ (st79 v' ++ st89 z1) := gput_blk (st79 z0) (pr79 v wy n ch H o s sf) (st89 z1) (st79 v') rfl
  exact e1
theorem gput_89 (v : gV) (wy : Nat → Int32) (n : Nat) (ch : Nat → Nat) (H : Nat → gV) (o s : Int32) (sf : Nat → Int32) (z0 z1 v' : gV) : gput (w13 v wy (txc n ch (hs15 H o s (slX sf z0 z1)))) (List.range' 89 10) (st89 v') = w13 v wy (txc n ch (hs15 H o s (slX sf z0 v'))) := by
  have e1 : gput ((pr79 v wy n ch H o s sf ++ st79 z0) ++ (st89 z1 ++ [])) (List.range' 89 10) (st89 v') = (pr79 v wy n ch H o s sf ++ st79 z0) ++ (st89 v' ++ []) := gput_blk (st89 z1) (pr79 v wy n ch H o s sf ++ st79 z0) [] (st89 v') rfl
  exact e1
abbrev idS0 : List Nat := [79, 80, 81, 82, 83, 84, 85, 86, 87, 88, 1, 2, 3, 4, 5, 6, 7, 8, 9, 10]
theorem ren_S0 (v : gV) : List.map (renE (gid idS0)) (st0 v ++ st10 v) = st79 v ++ st1 v := rfl
theorem gs_S0 {N : gP} {L : List (Nat × Value)} {S' : List Value} {k n' : Nat} {v : gV} {wy : Nat → Int32} {n : Nat} {ch : Nat → Nat} {H : Nat → gV} {o s : Nat} {sf : Nat → Int32} {z0 z1 : gV} (h : N L S' (wX v wy n ch H o s (slX sf v z1)) k n') : gspec idS0 sX4_copyFrom [.ref 79, .ref 1] N L S' (wX v wy n ch H o s (slX sf z0 z1)) k n' := by
  refine ⟨z0, v, rfl, rfl, ?_⟩
  show gif true (gputF (wX v wy n ch H o s (slX sf z0 z1)) idS0 (List.map (renE (gid idS0)) (st0 v ++ st10 v)) fun es2 => N L S' es2 k n')
  have e0 : idS0 = List.range' 79 10 ++ List.range' 1 10 := by decide
  rw [gputF_eq, ren_S0, e0, gput_app _ _ _ _ _ rfl, gput_79, gput_n1]
  exact h
abbrev idS1 : List Nat := [89, 90, 91, 92, 93, 94, 95, 96, 97, 98, 1, 2, 3, 4, 5, 6, 7, 8, 9, 10]
theorem ren_S1 (v : gV) : List.map (renE (gid idS1)) (st0 v ++ st10 v) = st89 v ++ st1 v := rfl
theorem gs_S1 {N : gP} {L : List (Nat × Value)} {S' : List Value} {k n' : Nat} {v : gV} {wy : Nat → Int32} {n : Nat} {ch : Nat → Nat} {H : Nat → gV} {o s : Nat} {sf : Nat → Int32} {z0 z1 : gV} (h : N L S' (wX v wy n ch H o s (slX sf z0 v)) k n') : gspec idS1 sX4_copyFrom [.ref 89, .ref 1] N L S' (wX v wy n ch H o s (slX sf z0 z1)) k n' := by
  refine ⟨z1, v, rfl, rfl, ?_⟩
  show gif true (gputF (wX v wy n ch H o s (slX sf z0 z1)) idS1 (List.map (renE (gid idS1)) (st0 v ++ st10 v)) fun es2 => N L S' es2 k n')
  have e0 : idS1 = List.range' 89 10 ++ List.range' 1 10 := by decide
  rw [gputF_eq, ren_S1, e0, gput_app _ _ _ _ _ rfl, gput_89, gput_n1]
  exact h
abbrev idR0 : List Nat := [1, 2, 3, 4, 5, 6, 7, 8, 9, 10, 79, 80, 81, 82, 83, 84, 85, 86, 87, 88]
theorem ren_R0 (v : gV) : List.map (renE (gid idR0)) (st0 v ++ st10 v) = st1 v ++ st79 v := rfl
theorem gs_R0 {N : gP} {L : List (Nat × Value)} {S' : List Value} {k n' : Nat} {v : gV} {wy : Nat → Int32} {n : Nat} {ch : Nat → Nat} {H : Nat → gV} {o s : Nat} {sf : Nat → Int32} {z0 z1 : gV} (h : N L S' (wX z0 wy n ch H o s (slX sf z0 z1)) k n') : gspec idR0 sX4_copyFrom [.ref 1, .ref 79] N L S' (wX v wy n ch H o s (slX sf z0 z1)) k n' := by
  refine ⟨v, z0, rfl, rfl, ?_⟩
  show gif true (gputF (wX v wy n ch H o s (slX sf z0 z1)) idR0 (List.map (renE (gid idR0)) (st0 z0 ++ st10 z0)) fun es2 => N L S' es2 k n')
  have e0 : idR0 = List.range' 1 10 ++ List.range' 79 10 := by decide
  rw [gputF_eq, ren_R0, e0, gput_app _ _ _ _ _ rfl, gput_n1, gput_79]
  exact h
abbrev idR1 : List Nat := [1, 2, 3, 4, 5, 6, 7, 8, 9, 10, 89, 90, 91, 92, 93, 94, 95, 96, 97, 98]
theorem ren_R1 (v : gV) : List.map (renE (gid idR1)) (st0 v ++ st10 v) = st1 v ++ st89 v := rfl
theorem gs_R1 {N : gP} {L : List (Nat × Value)} {S' : List Value} {k n' : Nat} {v : gV} {wy : Nat → Int32} {n : Nat} {ch : Nat → Nat} {H : Nat → gV} {o s : Nat} {sf : Nat → Int32} {z0 z1 : gV} (h : N L S' (wX z1 wy n ch H o s (slX sf z0 z1)) k n') : gspec idR1 sX4_copyFrom [.ref 1, .ref 89] N L S' (wX v wy n ch H o s (slX sf z0 z1)) k n' := by
  refine ⟨v, z1, rfl, rfl, ?_⟩
  show gif true (gputF (wX v wy n ch H o s (slX sf z0 z1)) idR1 (List.map (renE (gid idR1)) (st0 z1 ++ st10 z1)) fun es2 => N L S' es2 k n')
  have e0 : idR1 = List.range' 1 10 ++ List.range' 89 10 := by decide
  rw [gputF_eq, ren_R1, e0, gput_app _ _ _ _ _ rfl, gput_n1, gput_89]
  exact h
def oCpyX (rc rs : Nat) : gO := fun _ N L S es k n => match S with
  | .ref 1 :: .ref 79 :: S' => ∃ v wy m ch H o s sf z0 z1, es = wX v wy m ch H o s (slX sf z0 z1) ∧ gif (Nat.ble (scat S') 8 && (Nat.ble k rc && Nat.ble n rs)) (gforN 17 (wX v wy m ch H o s (slX sf v z1)) (fun es' => N L S' es' k n))
  | .ref 1 :: .ref 89 :: S' => ∃ v wy m ch H o s sf z0 z1, es = wX v wy m ch H o s (slX sf z0 z1) ∧ gif (Nat.ble (scat S') 8 && (Nat.ble k rc && Nat.ble n rs)) (gforN 17 (wX v wy m ch H o s (slX sf z0 v)) (fun es' => N L S' es' k n))
  | .ref 79 :: .ref 1 :: S' => ∃ v wy m ch H o s sf z0 z1, es = wX v wy m ch H o s (slX sf z0 z1) ∧ gif (Nat.ble (scat S') 8 && (Nat.ble k rc && Nat.ble n rs)) (gforN 17 (wX z0 wy m ch H o s (slX sf z0 z1)) (fun es' => N L S' es' k n))
  | .ref 89 :: .ref 1 :: S' => ∃ v wy m ch H o s sf z0 z1, es = wX v wy m ch H o s (slX sf z0 z1) ∧ gif (Nat.ble (scat S') 8 && (Nat.ble k rc && Nat.ble n rs)) (gforN 17 (wX z1 wy m ch H o s (slX sf z0 z1)) (fun es' => N L S' es' k n))
  | _ => False
theorem ok_cpyX {X : gX} {rc rs pc nx : Nat} (h : okO X pc nx (oCallVD rc rs 4 1 sX4_copyFrom)) : okO X pc nx (oCpyX rc rs) := by
  intro J N hJ hN L S es k n ho
  unfold oCpyX at ho
  split at ho
  · rename_i S'
    obtain ⟨v, wy, m, ch, H, o, s, sf, z0, z1, rfl, ho⟩ := ho
    obtain ⟨hb, ho⟩ := bif_t ho
    rw [gforN_eq] at ho
    refine h J N hJ hN L _ _ k n ?_
    have h3 : gif (Nat.ble (scat S') 8 && (Nat.ble k rc && Nat.ble n rs)) (gspec idS0 sX4_copyFrom [.ref 79, .ref 1] N L S' (wX v wy m ch H o s (slX sf z0 z1)) k n) := by
      rw [hb]
      exact gs_S0 ho
    exact ⟨idS0, rfl, h3⟩
  · rename_i S'
    obtain ⟨v, wy, m, ch, H, o, s, sf, z0, z1, rfl, ho⟩ := ho
    obtain ⟨hb, ho⟩ := bif_t ho
    rw [gforN_eq] at ho
    refine h J N hJ hN L _ _ k n ?_
    have h3 : gif (Nat.ble (scat S') 8 && (Nat.ble k rc && Nat.ble n rs)) (gspec idS1 sX4_copyFrom [.ref 89, .ref 1] N L S' (wX v wy m ch H o s (slX sf z0 z1)) k n) := by
      rw [hb]
      exact gs_S1 ho
    exact ⟨idS1, rfl, h3⟩
  · rename_i S'
    obtain ⟨v, wy, m, ch, H, o, s, sf, z0, z1, rfl, ho⟩ := ho
    obtain ⟨hb, ho⟩ := bif_t ho
    rw [gforN_eq] at ho
    refine h J N hJ hN L _ _ k n ?_
    have h3 : gif (Nat.ble (scat S') 8 && (Nat.ble k rc && Nat.ble n rs)) (gspec idR0 sX4_copyFrom [.ref 1, .ref 79] N L S' (wX v wy m ch H o s (slX sf z0 z1)) k n) := by
      rw [hb]
      exact gs_R0 ho
    exact ⟨idR0, rfl, h3⟩
  · rename_i S'
    obtain ⟨v, wy, m, ch, H, o, s, sf, z0, z1, rfl, ho⟩ := ho
    obtain ⟨hb, ho⟩ := bif_t ho
    rw [gforN_eq] at ho
    refine h J N hJ hN L _ _ k n ?_
    have h3 : gif (Nat.ble (scat S') 8 && (Nat.ble k rc && Nat.ble n rs)) (gspec idR1 sX4_copyFrom [.ref 1, .ref 89] N L S' (wX v wy m ch H o s (slX sf z0 z1)) k n) := by
      rw [hb]
      exact gs_R1 ho
    exact ⟨idR1, rfl, h3⟩
  · exact ho.elim
def svZ (q i : Nat) (v z : gV) : gV := bif Nat.beq q i then v else z
def sX6_save : gSX := fun av es K KX => ∃ x v wy n ch H o s sf z0 z1, av = [.ref 0, .int x] ∧ o < 6 ∧ s ≤ 6 ∧ es = wX v wy n ch H o s (slX sf z0 z1) ∧ (∀ q, q < 2 → x = nI q → K (some (.int (nI (allN (vHd v))))) (wX v wy n ch H o s (slX (upd sf q (nI 1)) (svZ q 0 v z0) (svZ q 1 v z1)))) ∧ (¬ inI x 2 → KX "java/lang/IndexOutOfBoundsException" es)
def rmX6_save : Room := { frames := 7, cells := 1, slots := 6, locals := 111 }
def pX6_save (K : gK) (KX : gKX) : List (Nat × gO) := [(0, oFR 17 (oILoad 1)), (1, oConst (nI 2)), (2, oCallSX 1 6 1 6 1 6 2 [] sX6_requireIndex KX), (5, oFR 17 (oALoad 0)), (6, oGet 6 4), (9, oILoad 1), (10, oAALd), (11, oALoad 0), (12, oGet 6 0), (15, oCpyX 1 6), (18, oALoad 0), (19, oGet 6 5), (22, oILoad 1), (23, oConst (nI 1)), (24, oZASt), (25, oFR 17 (oALoad 0)), (26, oGet 6 0), (29, oGet 4 0), (32, oCallVR 17 1 6 3 0 [2,3,4,5] sX3_allLines), (35, oFR 17 (oRet K 1 6))]
set_option maxRecDepth 100000 in
theorem kX6_save {X : gX} {l : Launch} (hM : gM X l cX6_save RX6 wsX6_save rmX6_save) {K : gK} (hE : gR X K 1 6 (some .int)) {KX : gKX} (hX : gRX X KX 1 6) (hl : l.stackTraces = false) (hnL : X.2.2.2.2.2.2.2.2.2.2.2.2.2.2.2.2 = 2) : okL X (pX6_save K KX) := by
  obtain ⟨p, l1, e, R, s, m, args, below, meth, c, D, cA, A, ag, ad0, Q, nL⟩ := X
  cases hnL
  refine ⟨ok_FR (ok_iload_n hM 1 dX6_save_0 rfl),
    ok_iconst hM dX6_save_1 rfl,
    ok_callSX hM hX [] (ctX6_requireIndex l hl) rfl gX6_save_X6_requireIndex rfl rfl rfl (by decide +kernel) (by decide) dX6_save_2,
    ok_FR (ok_aload_n hM 0 dX6_save_5 rfl),
    ok_get (C := RX6) (T := TX6) (Nf := 6) hM (fun _ h => List.mem_cons_of_mem _ (List.mem_append_left _ (List.mem_append_left _ (List.mem_append_left _ (List.mem_append_left _ (List.mem_append_right _ h)))))) rfl 4 (by decide) (List.mem_of_getElem? (i := 1) rfl) rfl dX6_save_6,
    ok_iload_n hM 1 dX6_save_9 rfl,
    ok_aald hM dX6_save_10,
    ok_aload_n hM 0 dX6_save_11 rfl,
    ok_get (C := RX6) (T := TX6) (Nf := 6) hM (fun _ h => List.mem_cons_of_mem _ (List.mem_append_left _ (List.mem_append_left _ (List.mem_append_left _ (List.mem_append_left _ (List.mem_append_right _ h)))))) rfl 0 (by decide) (List.mem_of_getElem? (i := 2) rfl) rfl dX6_save_12,
    ok_cpyX (ok_callVD hM (ctX4_copyFrom l) rfl gX6_save_X4_copyFrom rfl rfl rfl (by decide +kernel) (by decide) dX6_save_15),
    ok_aload_n hM 0 dX6_save_18 rfl,
    ok_get (C := RX6) (T := TX6) (Nf := 6) hM (fun _ h => List.mem_cons_of_mem _ (List.mem_append_left _ (List.mem_append_left _ (List.mem_append_left _ (List.mem_append_left _ (List.mem_append_right _ h)))))) rfl 5 (by decide) (List.mem_of_getElem? (i := 3) rfl) rfl dX6_save_19,
    ok_iload_n hM 1 dX6_save_22 rfl,
    ok_iconst hM dX6_save_23 rfl,
    ok_zast hM dX6_save_24,
    ok_FR (ok_aload_n hM 0 dX6_save_25 rfl),
    ok_get (C := RX6) (T := TX6) (Nf := 6) hM (fun _ h => List.mem_cons_of_mem _ (List.mem_append_left _ (List.mem_append_left _ (List.mem_append_left _ (List.mem_append_left _ (List.mem_append_right _ h)))))) rfl 0 (by decide) (List.mem_of_getElem? (i := 2) rfl) rfl dX6_save_26,
    ok_get (C := RX4) (T := TX4) (Nf := 6) hM (fun _ h => List.mem_cons_of_mem _ (List.mem_append_left _ (List.mem_append_left _ (List.mem_append_left _ (List.mem_append_right _ h))))) rfl 0 (by decide) (List.mem_of_getElem? (i := 4) rfl) rfl dX6_save_29,
    ok_R (ok_callV hM [2,3,4,5] (ctX3_allLines l) rfl rfl gX6_save_X3_allLines rfl rfl rfl (by decide +kernel) (by decide) dX6_save_32),
    ok_FR (ok_ret hM hE dX6_save_35),
    trivial⟩
set_option maxRecDepth 100000 in
theorem ctX6_save (l : Launch) (hl : l.stackTraces = false) : CtX l yX6_save wsX6_save rmX6_save 1 6 sX6_save := by
  refine ctX_of (own := RX6) (cc := cX6_save) (maxL := 2) (ret := (some .int)) (by decide) rfl rfl (by rintro _ _ _ _ ⟨x, v, wy, n, ch, H, o, s, sf, z0, z1, rfl, ho, hs, rfl, hK, hX0⟩; exact Nat.le_of_ble_eq_true rfl) ?_
  intro X av es K KX hM hE hX hnL hsp
  obtain ⟨x, v, wy, n, ch, H, o, s, sf, z0, z1, rfl, ho, hs, rfl, hK, hX0⟩ := hsp
  have hf := kX6_save hM hE hX hl hnL
  refine wr_ok hf cut_nil 5 0 _ _ _ _ _ ?_
  refine ⟨_, _, 2, rfl, rfl, by decide, rfl, fun q hq eq => ?_, fun q => hX0 q⟩
  subst eq
  have hq2 : q = 0 ∨ q = 1 := by omega
  rcases hq2 with rfl | rfl
  · refine ⟨0, rfl, by omega, ?_⟩
    refine ⟨v, wy, n, ch, H, o, s, sf, z0, z1, rfl, ?_⟩
    refine ⟨0, rfl, by omega, by decide +kernel, ?_⟩
    refine ⟨vOw v, vHd v, vSt v, rfl, rfl, ?_⟩
    exact hK 0 hq rfl
  · refine ⟨1, rfl, by omega, ?_⟩
    refine ⟨v, wy, n, ch, H, o, s, sf, z0, z1, rfl, ?_⟩
    refine ⟨1, rfl, by omega, by decide +kernel, ?_⟩
    refine ⟨vOw v, vHd v, vSt v, rfl, rfl, ?_⟩
    exact hK 1 hq rfl
def sX6_restore : gSX := fun av es K KX => ∃ x v wy n ch H o s sf z0 z1, av = [.ref 0, .int x] ∧ o < 6 ∧ s ≤ 6 ∧ es = wX v wy n ch H o s (slX sf z0 z1) ∧ (∀ q, q < 2 → x = nI q → ¬ sf q = 0 → K (some (.int (nI (allN (vHd (svZ q 0 z0 z1)))))) (wX (svZ q 0 z0 z1) wy n ch (psH H o s v) (psO o s) (psS s) (slX sf z0 z1))) ∧ (¬ inI x 2 → KX "java/lang/IndexOutOfBoundsException" es) ∧ (∀ q, q < 2 → x = nI q → sf q = 0 → KX "java/lang/IllegalStateException" es)
def rmX6_restore : Room := { frames := 7, cells := 2, slots := 12, locals := 123 }
def pX6_restore (K : gK) (KX : gKX) : List (Nat × gO) := [(0, oFR 17 (oILoad 1)), (1, oConst (nI 2)), (2, oCallSX 2 12 2 12 1 6 2 [] sX6_requireIndex KX), (5, oFR 17 (oALoad 0)), (6, oGet 6 5), (9, oILoad 1), (10, oIALd 2), (11, oIf_ne 24), (14, oThrow KX "java/lang/IllegalStateException" 2 12), (24, oALoad 0), (25, oGet 6 2), (28, oALoad 0), (29, oGet 6 0), (32, oPushX 2 12), (35, oALoad 0), (36, oGet 6 0), (39, oALoad 0), (40, oGet 6 4), (43, oILoad 1), (44, oAALd), (45, oCpyX 2 12), (48, oALoad 0), (49, oGet 6 0), (52, oGet 4 0), (55, oCallVR 17 2 12 3 0 [2,3,4,5] sX3_allLines), (58, oFR 17 (oRet K 2 12))]
set_option maxRecDepth 100000 in
theorem kX6_restore {X : gX} {l : Launch} (hM : gM X l cX6_restore RX6 wsX6_restore rmX6_restore) {K : gK} (hE : gR X K 2 12 (some .int)) {KX : gKX} (hX : gRX X KX 2 12) (hl : l.stackTraces = false) (hnL : X.2.2.2.2.2.2.2.2.2.2.2.2.2.2.2.2 = 2) : okL X (pX6_restore K KX) := by
  obtain ⟨p, l1, e, R, s, m, args, below, meth, c, D, cA, A, ag, ad0, Q, nL⟩ := X
  cases hnL
  refine ⟨ok_FR (ok_iload_n hM 1 dX6_restore_0 rfl),
    ok_iconst hM dX6_restore_1 rfl,
    ok_callSX hM hX [] (ctX6_requireIndex l hl) rfl gX6_restore_X6_requireIndex rfl rfl rfl (by decide +kernel) (by decide) dX6_restore_2,
    ok_FR (ok_aload_n hM 0 dX6_restore_5 rfl),
    ok_get (C := RX6) (T := TX6) (Nf := 6) hM (fun _ h => List.mem_cons_of_mem _ (List.mem_append_left _ (List.mem_append_left _ (List.mem_append_left _ (List.mem_append_left _ (List.mem_append_left _ (List.mem_append_left _ (List.mem_append_right _ h)))))))) rfl 5 (by decide) (List.mem_of_getElem? (i := 3) rfl) rfl dX6_restore_6,
    ok_iload_n hM 1 dX6_restore_9 rfl,
    ok_zald hM dX6_restore_10,
    ok_if_ne hM 24 dX6_restore_11 (by decide),
    ok_throw hM hX hl (text := "the slot is empty") "java/lang/IllegalStateException" ["java/lang/RuntimeException", "java/lang/Exception"] (by decide +kernel) (by decide +kernel) rfl (List.mem_of_getElem? (i := 1) rfl) (List.mem_of_getElem? (i := 2) rfl) (by decide +kernel) (by decide +kernel) gBad_3 (by decide +kernel) (by decide) (by decide) ⟨Nat.le_refl _, Nat.le_refl _⟩ dX6_restore_14 dX6_restore_17 dX6_restore_18 dX6_restore_20 dX6_restore_23,
    ok_aload_n hM 0 dX6_restore_24 rfl,
    ok_get (C := RX6) (T := TX6) (Nf := 6) hM (fun _ h => List.mem_cons_of_mem _ (List.mem_append_left _ (List.mem_append_left _ (List.mem_append_left _ (List.mem_append_left _ (List.mem_append_left _ (List.mem_append_left _ (List.mem_append_right _ h)))))))) rfl 2 (by decide) (List.mem_of_getElem? (i := 4) rfl) rfl dX6_restore_25,
    ok_aload_n hM 0 dX6_restore_28 rfl,
    ok_get (C := RX6) (T := TX6) (Nf := 6) hM (fun _ h => List.mem_cons_of_mem _ (List.mem_append_left _ (List.mem_append_left _ (List.mem_append_left _ (List.mem_append_left _ (List.mem_append_left _ (List.mem_append_left _ (List.mem_append_right _ h)))))))) rfl 0 (by decide) (List.mem_of_getElem? (i := 5) rfl) rfl dX6_restore_29,
    ok_pushX (ok_callV hM idH (ctX1_push l) rfl rfl gX6_restore_X1_push rfl rfl rfl (by decide +kernel) (by decide) dX6_restore_32),
    ok_aload_n hM 0 dX6_restore_35 rfl,
    ok_get (C := RX6) (T := TX6) (Nf := 6) hM (fun _ h => List.mem_cons_of_mem _ (List.mem_append_left _ (List.mem_append_left _ (List.mem_append_left _ (List.mem_append_left _ (List.mem_append_left _ (List.mem_append_left _ (List.mem_append_right _ h)))))))) rfl 0 (by decide) (List.mem_of_getElem? (i := 5) rfl) rfl dX6_restore_36,
    ok_aload_n hM 0 dX6_restore_39 rfl,
    ok_get (C := RX6) (T := TX6) (Nf := 6) hM (fun _ h => List.mem_cons_of_mem _ (List.mem_append_left _ (List.mem_append_left _ (List.mem_append_left _ (List.mem_append_left _ (List.mem_append_left _ (List.mem_append_left _ (List.mem_append_right _ h)))))))) rfl 4 (by decide) (List.mem_of_getElem? (i := 6) rfl) rfl dX6_restore_40,
    ok_iload_n hM 1 dX6_restore_43 rfl,
    ok_aald hM dX6_restore_44,
    ok_cpyX (ok_callVD hM (ctX4_copyFrom l) rfl gX6_restore_X4_copyFrom rfl rfl rfl (by decide +kernel) (by decide) dX6_restore_45),
    ok_aload_n hM 0 dX6_restore_48 rfl,
    ok_get (C := RX6) (T := TX6) (Nf := 6) hM (fun _ h => List.mem_cons_of_mem _ (List.mem_append_left _ (List.mem_append_left _ (List.mem_append_left _ (List.mem_append_left _ (List.mem_append_left _ (List.mem_append_left _ (List.mem_append_right _ h)))))))) rfl 0 (by decide) (List.mem_of_getElem? (i := 5) rfl) rfl dX6_restore_49,
    ok_get (C := RX4) (T := TX4) (Nf := 6) hM (fun _ h => List.mem_cons_of_mem _ (List.mem_append_left _ (List.mem_append_left _ (List.mem_append_left _ (List.mem_append_left _ (List.mem_append_left _ (List.mem_append_right _ h))))))) rfl 0 (by decide) (List.mem_of_getElem? (i := 7) rfl) rfl dX6_restore_52,
    ok_R (ok_callV hM [2,3,4,5] (ctX3_allLines l) rfl rfl gX6_restore_X3_allLines rfl rfl rfl (by decide +kernel) (by decide) dX6_restore_55),
    ok_FR (ok_ret hM hE dX6_restore_58),
    trivial⟩
set_option maxRecDepth 100000 in
theorem ctX6_restore (l : Launch) (hl : l.stackTraces = false) : CtX l yX6_restore wsX6_restore rmX6_restore 2 12 sX6_restore := by
  refine ctX_of (own := RX6) (cc := cX6_restore) (maxL := 2) (ret := (some .int)) (by decide) rfl rfl (by rintro _ _ _ _ ⟨x, v, wy, n, ch, H, o, s, sf, z0, z1, rfl, ho, hs, rfl, hK, hX0, hX1⟩; exact Nat.le_of_ble_eq_true rfl) ?_
  intro X av es K KX hM hE hX hnL hsp
  obtain ⟨x, v, wy, n, ch, H, o, s, sf, z0, z1, rfl, ho, hs, rfl, hK, hX0, hX1⟩ := hsp
  have hf := kX6_restore hM hE hX hl hnL
  refine wr_ok hf cut_nil 5 0 _ _ _ _ _ ?_
  refine ⟨_, _, 2, rfl, rfl, by decide, rfl, fun q hq eq => ?_, fun q => hX0 q⟩
  subst eq
  have hq2 : q = 0 ∨ q = 1 := by omega
  rcases hq2 with rfl | rfl
  · refine ⟨0, rfl, by omega, ?_⟩
    refine ⟨fun h1 => ?_, fun h1 => ?_⟩
    · refine ⟨v, wy, n, ch, H, o, s, _, ho, hs, rfl, ?_⟩
      refine ⟨0, rfl, by omega, ?_⟩
      refine ⟨v, wy, n, ch, psH H o s v, psO o s, psS s, sf, z0, z1, rfl, ?_⟩
      refine ⟨vOw z0, vHd z0, vSt z0, rfl, rfl, ?_⟩
      exact hK 0 hq rfl h1
    · exact hX1 0 hq rfl h1
  · refine ⟨1, rfl, by omega, ?_⟩
    refine ⟨fun h1 => ?_, fun h1 => ?_⟩
    · refine ⟨v, wy, n, ch, H, o, s, _, ho, hs, rfl, ?_⟩
      refine ⟨1, rfl, by omega, ?_⟩
      refine ⟨v, wy, n, ch, psH H o s v, psO o s, psS s, sf, z0, z1, rfl, ?_⟩
      refine ⟨vOw z1, vHd z1, vSt z1, rfl, rfl, ?_⟩
      exact hK 1 hq rfl h1
    · exact hX1 1 hq rfl h1
end MQ8

/-! The law: its worlds, its steps. -/
section LE1
theorem gw_D {cA : Nat → ClassId} {ad : Nat → Nat} {es es' : List gE} {A : Nat → Prop} (h : es'.length = es.length) (hD : va_D A (gw cA ad es)) : va_D A (gw cA ad es') := by
  have key : ∀ (i : Nat) (q : Nat × va_E), (gw cA ad es')[i]? = some q → ∃ e, es[i]? = some e ∧ q.1 = ad i := by
    intro i q hq
    rw [gw_at] at hq
    cases hb : es'[i]? with
    | none => rw [hb] at hq; cases hq
    | some b =>
      rw [hb] at hq
      cases hq
      have hlt : i < es.length := by
        rw [← h]
        exact (List.getElem?_eq_some_iff.mp hb).1
      exact ⟨es[i], List.getElem?_eq_getElem hlt, rfl⟩
  refine ⟨fun i j p q hp hq he => ?_, fun i q hq => ?_⟩
  · obtain ⟨a, h1, h2⟩ := key i p hp
    obtain ⟨b, h3, h4⟩ := key j q hq
    exact hD.1 i j _ _ (gw_get h1) (gw_get h3) (h2.symm.trans (he.trans h4))
  · obtain ⟨a, h1, h2⟩ := key i q hq
    rw [h2]
    exact hD.2 i (ad i, ge cA ad a) (gw_get h1)
abbrev blk (pre E post : List gE) : List gE := pre ++ (E.map (renE (fun k => pre.length + k)) ++ post)
theorem blk_get {pre E post : List gE} {j : Nat} {e : gE} (h : E[j]? = some e) : (blk pre E post)[pre.length + j]? = some (renE (fun k => pre.length + k) e) := by
  have hlt := (List.getElem?_eq_some_iff.mp h).1
  rw [List.getElem?_append_right (by omega), Nat.add_sub_cancel_left, List.getElem?_append_left (by simpa using hlt), List.getElem?_map, h]
  rfl
theorem blk_at {cA : Nat → ClassId} {ad : Nat → Nat} {pre E post : List gE} {j : Nat} {q : Nat × va_E} (h : (gw cA (fun k => ad (pre.length + k)) E)[j]? = some q) : ∃ e, E[j]? = some e ∧ q = (ad (pre.length + j), ge cA ad (renE (fun k => pre.length + k) e)) := by
  rw [gw_at] at h
  cases hj : E[j]? with
  | none => rw [hj] at h; cases h
  | some e =>
    rw [hj] at h
    refine ⟨e, rfl, ?_⟩
    rw [ren_e]
    exact (Option.some.inj h).symm
theorem blk_P {D : va_G} {cA : Nat → ClassId} {ad : Nat → Nat} {pre E post : List gE} {H : Heap} (hP : va_P D vwCl (gw cA ad (blk pre E post)) H) : va_P D vwCl (gw cA (fun k => ad (pre.length + k)) E) H := by
  intro j q h
  obtain ⟨e, h1, rfl⟩ := blk_at (pre := pre) (post := post) h
  exact hP _ _ (gw_get (blk_get h1))
theorem blk_D {cA : Nat → ClassId} {ad : Nat → Nat} {pre E post : List gE} {A : Nat → Prop} (hD : va_D A (gw cA ad (blk pre E post))) : va_D A (gw cA (fun k => ad (pre.length + k)) E) := by
  refine ⟨fun i j p q hp hq he => ?_, fun i q hq => ?_⟩
  · obtain ⟨a, h1, rfl⟩ := blk_at (pre := pre) (post := post) hp
    obtain ⟨b, h3, rfl⟩ := blk_at (pre := pre) (post := post) hq
    have := hD.1 _ _ _ _ (gw_get (blk_get (pre := pre) (post := post) h1)) (gw_get (blk_get (pre := pre) (post := post) h3)) he
    omega
  · obtain ⟨a, h1, rfl⟩ := blk_at (pre := pre) (post := post) hq
    exact hD.2 _ _ (gw_get (blk_get (pre := pre) (post := post) h1))
theorem blk_F {cA : Nat → ClassId} {ad : Nat → Nat} {pre E post : List gE} {A : Nat → Prop} {H0 H : Heap} {locs : List Loc} (hD : va_D A (gw cA ad (blk pre E post))) (hS : va_S A H0 H locs) (hA : ∀ q, H0.size ≤ q → A q) : ∀ q, va_A (gw cA (fun k => ad (pre.length + k)) E) H.size q → A q := by
  intro q h
  rcases h with ⟨k, e, h⟩ | h
  · exact (blk_D (pre := pre) (post := post) hD).2 k _ h
  · exact hA q (Nat.le_trans hS.1 h)
theorem blk_len (pre E post : List gE) : (blk pre E post).length = pre.length + (E.length + post.length) := by simp
theorem blk_join {D : va_G} {cA : Nat → ClassId} {ad : Nat → Nat} {pre E E' post : List gE} {A : Nat → Prop} {H H1 : Heap} (hP : va_P D vwCl (gw cA ad (blk pre E post)) H) (hD : va_D A (gw cA ad (blk pre E post))) (hlen : E'.length = E.length)
    (hk : ∀ q : Nat, q < H.size → ¬ va_A (gw cA (fun k => ad (pre.length + k)) E) H.size q → H1[q]? = H[q]?) (hP1 : va_P D vwCl (gw cA (fun k => ad (pre.length + k)) E') H1) :
    va_P D vwCl (gw cA ad (blk pre E' post)) H1 ∧ va_D A (gw cA ad (blk pre E' post)) := by
  refine ⟨fun i q h => ?_, gw_D (by rw [blk_len, blk_len, hlen]) hD⟩
  by_cases hin : pre.length ≤ i ∧ i < pre.length + E.length
  · obtain ⟨j, rfl⟩ : ∃ j, i = pre.length + j := ⟨i - pre.length, by omega⟩
    have hj : j < E'.length := by omega
    have he : E'[j]? = some E'[j] := List.getElem?_eq_getElem hj
    rw [gw_get (blk_get (pre := pre) (post := post) he)] at h
    cases h
    have h9 := hP1 j _ (gw_get he)
    rw [ren_e]
    exact h9
  · have e1 : (blk pre E' post)[i]? = (blk pre E post)[i]? := by
      by_cases h1 : i < pre.length
      · rw [List.getElem?_append_left h1, List.getElem?_append_left h1]
      · rw [List.getElem?_append_right (by omega), List.getElem?_append_right (by simp only [List.length_map]; omega), List.getElem?_append_right (by omega), List.getElem?_append_right (by simp only [List.length_map]; omega), List.length_map, List.length_map, hlen]
    have e2 : (gw cA ad (blk pre E post))[i]? = some q := by
      rw [gw_at] at h ⊢
      rw [← e1]
      exact h
    have hv := hP i q e2
    refine hv.kept (hk q.1 hv.lt ?_)
    intro h
    rcases h with ⟨k, e', h⟩ | h
    · obtain ⟨e, h1, h2⟩ := blk_at (pre := pre) (post := post) h
      have h3 : q.1 = ad (pre.length + k) := congrArg Prod.fst h2
      have h4 := hD.1 _ _ _ _ e2 (gw_get (blk_get (pre := pre) (post := post) h1)) h3
      have h5 := (List.getElem?_eq_some_iff.mp h1).1
      omega
    · have := hv.lt
      omega
theorem ren_id : ∀ (E : List gE), E.map (renE (fun k => ([] : List gE).length + k)) = E := by
  have hv : ∀ v : Value, renV (fun k => ([] : List gE).length + k) v = v := fun v => by
    cases v with
    | ref k => show Value.ref (0 + k) = _; rw [Nat.zero_add]
    | _ => rfl
  have hvs : ∀ vs : List Value, vs.map (renV (fun k => ([] : List gE).length + k)) = vs := fun vs => by
    induction vs with
    | nil => rfl
    | cons v vs ih => rw [List.map_cons, hv, ih]
  have ho : ∀ r : List (Option Nat), r.map (Option.map (fun k => ([] : List gE).length + k)) = r := fun r => by
    induction r with
    | nil => rfl
    | cons q r ih =>
      rw [List.map_cons, ih]
      cases q with
      | none => rfl
      | some k => show some (0 + k) :: r = _; rw [Nat.zero_add]
  intro E
  induction E with
  | nil => rfl
  | cons e E ih =>
    rw [List.map_cons, ih]
    rcases e with ⟨t, n, f | f | f | r⟩ | ⟨c, fs⟩
    · rfl
    · rfl
    · rfl
    · simp only [renE, ho]
    · simp only [renE, hvs]
theorem blk_0 (es0 rest : List gE) : es0 ++ rest = blk [] es0 rest := by
  unfold blk
  rw [ren_id]
  rfl
theorem ad_0 (ad : Nat → Nat) : (fun k => ad (([] : List gE).length + k)) = ad := funext fun k => by rw [List.length_nil, Nat.zero_add]
theorem Ct.mono {l : Launch} {y : MethodName} {ws : List Cond} {rm : Room} {mc ms : Nat} {al : Bool} {sp sp' : gS} (h : Ct l y ws rm mc ms al sp) (hs : ∀ av es K, sp' av es K → sp av es K) : Ct l y ws rm mc ms al sp' := fun D cA ad sz av es K hk => h D cA ad sz av es K (hs av es K hk)
/-- the cache's own 99 cells, its state v -/
def PW (v : gV) (C : List gE) : Prop := ∃ wy n ch H o s sf z0 z1, o < 6 ∧ s ≤ 6 ∧ C = wX v wy n ch H o s (slX sf z0 z1)
theorem PW_len {v : gV} {C : List gE} (h : PW v C) : C.length = 99 := by
  obtain ⟨wy, n, ch, H, o, s, sf, z0, z1, ho, hs, rfl⟩ := h
  rfl
theorem PW_0 {v : gV} {C : List gE} (h : PW v C) : C[0]? = some (pcO 1 11 15 13 77 78) := by
  obtain ⟨wy, n, ch, H, o, s, sf, z0, z1, ho, hs, rfl⟩ := h
  rfl
theorem PW_wf {v : gV} {C : List gE} (h : PW v C) : C.all (wfE 99) = true := by
  obtain ⟨wy, n, ch, H, o, s, sf, z0, z1, ho, hs, rfl⟩ := h
  rfl
abbrev gHS : Type := List Value → gV → (Int32 → gV → Prop) → Prop
/-- a contract over the cache's state -/
def hS (sp : gHS) : gS := fun av es K => ∃ v F, PW v es ∧ sp av v F ∧ ∀ r v' C', F r v' → PW v' C' → K (some (.int r)) C'
def hSX (sp : gHS) : gSX := fun av es K _ => hS sp av es K
theorem ctX_mono {l : Launch} {y : MethodName} {ws : List Cond} {rm : Room} {mc ms : Nat} {sp sp' : gSX} (h : CtX l y ws rm mc ms sp) (hm : ∀ av es K KX, sp' av es K KX → sp av es K KX) : CtX l y ws rm mc ms sp' := fun D cA ad sz av es K KX hs => h D cA ad sz av es K KX (hm _ _ _ _ hs)
variable {X : gX} {l0 : Launch} {cc : ByteArray} {own : String} {Ts : List Cond} {R0 : Room} {pc : Nat}
/-- a call of a method of the cache that may throw, and doesn't here -/
def oPX (rc rs cmc cms np : Nat) (sp : gHS) : gO := fun _ N L S es k n => match gtake np [] S with
  | some (as, .ref b :: S') => gif (Nat.beq b 0 && Nat.ble (scat S') 8) ((k + cmc ≤ rc ∧ n + cms ≤ rs) ∧ ∃ v C M, es = C ++ M ∧ PW v C ∧ sp (.ref 0 :: as) v (fun r v' => ∀ C', PW v' C' → N L (.int r :: S') (C' ++ M) (k + cmc) (n + cms)))
  | _ => False
theorem ok_PX (hM : gM X l0 cc own Ts R0) {y : MethodName} {ws ws' : List Cond} {rm : Room} {bytes : ByteArray} {maxL index np cmc cms : Nat} {ret : Option FieldType} {sp : gHS} (hC : CtX l0 y ws rm cmc cms (hSX sp)) (hG : GoodIn Ts (wsV own index RX6 y ws)) (hw : ws = Cond.code y bytes maxL ret :: ws') (hrc : rm.cells = cmc) (hrs : rm.slots = cms)
    (hdy : y.cls = RX6 ∧ y.cls ≠ "java/lang/invoke/MethodHandle" ∧ y.cls ≠ "java/lang/invoke/VarHandle" ∧ (parseMethodDescriptor y.desc).map (fun d => d.parameters.length) = some np) (hRm : rm.frames + 1 ≤ R0.frames ∧ 8 + (maxL + 11) + rm.locals ≤ R0.locals) (hd : decode cc pc = .ok (.invokevirtual index, 3)) :
    okO X pc (pc + 3) (oPX R0.cells R0.slots cmc cms np sp) := by
  obtain ⟨p, l, e, R, s, m, args, below, meth, c, D, cA, A, ag, ad0, Q, nL⟩ := X
  obtain ⟨hx, hb, hown, hts, hml, hlk, hY, hA, hR, hL0⟩ := hM
  have hK := hY.1
  subst hR
  subst hL0
  intro J N hJ hN L S es k n h ad H locs ls hag hP hD hS hl
  unfold oPX at h
  split at h
  · rename_i as b S' htk
    obtain ⟨pre, h1, h2, h3⟩ := gtake_ok htk
    simp only [List.append_nil] at h1
    subst h1
    subst h2
    replace h := bif_t h
    obtain ⟨hc1, h⟩ := h
    obtain ⟨hb0, hc2⟩ := and_t hc1
    obtain rfl := Nat.eq_of_beq_eq_true hb0
    obtain ⟨hroom, v, C, M, rfl, hPW, h⟩ := h
    rw [blk_0] at hP hD
    have hP0 := blk_P hP
    have hD0 := blk_D hD
    have hF := blk_F hD hS hA
    rw [ad_0] at hP0 hD0 hF
    have hMet := hC D cA ad H.size (.ref 0 :: as) C (fun val es' => ∃ r v', val = some (.int r) ∧ PW v' es' ∧ ∀ C', PW v' C' → N L (.int r :: S') (C' ++ M) (k + cmc) (n + cms)) (fun _ _ => False) ⟨v, _, hPW, h, fun r v' C' hF9 hW9 => ⟨r, v', rfl, hW9, hF9⟩⟩
    refine g_callX (vx_runV (As := as.map (gv ad)) (rest := S'.map (gv ad)) (b := ad 0) ⟨hx, hb, hml, hown, hts⟩ hMet (cwV np hts hG hw hrc hrs hdy hRm) ⟨gPc_blind, va_recv (ci := 6) hK hP0 rfl (q0 := 0) (gw_get (PW_0 hPW)), fun U hU hW => ?_⟩ rfl (by simp [h3]) hl.1 (by simp [gv]) (lv_room (by rw [scat_eq]; exact Nat.le_of_ble_eq_true hc2)) hd hroom) hS hF (fun E ce q9 es' H1 locs1 hKX hP1 hD1 hz hk hS1 hce hcv hcl => hKX.elim) (fun val es' ad' H1 locs1 hKv hag' hP1 hD1 hz hk hS1 => ?_)
    · exact ⟨rfl, by rw [hU], by rw [hU]; exact hP0, gY.call hY hS hF hW hU, hD0.weaken (fun _ _ _ _ => trivial)⟩
    · have had : ad' = ad := funext fun i => hag' i trivial
      subst had
      obtain ⟨r, v', rfl, hW9, hKv⟩ := hKv
      have hkk : ∀ q : Nat, q < H.size → ¬ va_A (gw cA (fun k => ad' (([] : List gE).length + k)) C) H.size q → H1[q]? = H[q]? := by
        rw [ad_0]
        exact hk
      obtain ⟨hPn, hDn⟩ := blk_join (E' := es') hP hD ((PW_len hW9).trans (PW_len hPW).symm) hkk (by rw [ad_0]; exact hP1)
      rw [← blk_0] at hPn hDn
      exact hN _ _ _ _ _ (hKv es' hW9) ad' H1 locs1 ls hag hPn hDn hS1 hl
  · exact h.elim
/-- a call of a method of the cache that never throws -/
def oPV (rc rs np : Nat) (sp : gHS) : gO := fun _ N L S es k n => match gtake np [] S with
  | some (as, .ref b :: S') => gif (Nat.beq b 0 && Nat.ble (scat S') 8) ((k ≤ rc ∧ n ≤ rs) ∧ ∃ v C M, es = C ++ M ∧ PW v C ∧ sp (.ref 0 :: as) v (fun r v' => ∀ C', PW v' C' → N L (.int r :: S') (C' ++ M) k n))
  | _ => False
theorem ok_PV (hM : gM X l0 cc own Ts R0) {y : MethodName} {ws ws' : List Cond} {rm : Room} {bytes : ByteArray} {maxL index np : Nat} {ret : Option FieldType} {sp : gHS} (hC : Ct l0 y ws rm 0 0 false (hS sp)) (hG : GoodIn Ts (wsV own index RX6 y ws)) (hw : ws = Cond.code y bytes maxL ret :: ws') (hrc : rm.cells = 0) (hrs : rm.slots = 0)
    (hdy : y.cls = RX6 ∧ y.cls ≠ "java/lang/invoke/MethodHandle" ∧ y.cls ≠ "java/lang/invoke/VarHandle" ∧ (parseMethodDescriptor y.desc).map (fun d => d.parameters.length) = some np) (hRm : rm.frames + 1 ≤ R0.frames ∧ 8 + (maxL + 11) + rm.locals ≤ R0.locals) (hd : decode cc pc = .ok (.invokevirtual index, 3)) :
    okO X pc (pc + 3) (oPV R0.cells R0.slots np sp) := by
  obtain ⟨p, l, e, R, s, m, args, below, meth, c, D, cA, A, ag, ad0, Q, nL⟩ := X
  obtain ⟨hx, hb, hown, hts, hml, hlk, hY, hA, hR, hL0⟩ := hM
  have hK := hY.1
  subst hR
  subst hL0
  intro J N hJ hN L S es k n h ad H locs ls hag hP hD hS hl
  unfold oPV at h
  split at h
  · rename_i as b S' htk
    obtain ⟨pre, h1, h2, h3⟩ := gtake_ok htk
    simp only [List.append_nil] at h1
    subst h1
    subst h2
    replace h := bif_t h
    obtain ⟨hc1, h⟩ := h
    obtain ⟨hb0, hc2⟩ := and_t hc1
    obtain rfl := Nat.eq_of_beq_eq_true hb0
    obtain ⟨hroom, v, C, M, rfl, hPW, h⟩ := h
    rw [blk_0] at hP hD
    have hP0 := blk_P hP
    have hD0 := blk_D hD
    have hF := blk_F hD hS hA
    rw [ad_0] at hP0 hD0 hF
    have hMet := hC D cA ad H.size (.ref 0 :: as) C (fun val es' => ∃ r v', val = some (.int r) ∧ PW v' es' ∧ ∀ C', PW v' C' → N L (.int r :: S') (C' ++ M) k n) ⟨v, _, hPW, h, fun r v' C' hF9 hW9 => ⟨r, v', rfl, hW9, hF9⟩⟩
    refine g_call (va_runV (As := as.map (gv ad)) (rest := S'.map (gv ad)) (b := ad 0) ⟨hx, hb, hml, hown, hts⟩ hMet (cwV np hts hG hw hrc hrs hdy hRm) ⟨gPc_blind, va_recv (ci := 6) hK hP0 rfl (q0 := 0) (gw_get (PW_0 hPW)), fun U hU hW => ?_⟩ rfl (by simp [h3]) hl.1 (by simp [gv]) (lv_room (by rw [scat_eq]; exact Nat.le_of_ble_eq_true hc2)) hd hroom) hS hF (fun val es' ad' H1 locs1 hKv hag' hP1 hD1 hz hk hS1 => ?_)
    · exact ⟨rfl, by rw [hU], by rw [hU]; exact hP0, gY.call hY hS hF hW hU, hD0.weaken (fun _ _ _ _ => trivial)⟩
    · have had : ad' = ad := funext fun i => hag' i trivial
      subst had
      obtain ⟨r, v', rfl, hW9, hKv⟩ := hKv
      have hkk : ∀ q : Nat, q < H.size → ¬ va_A (gw cA (fun k => ad' (([] : List gE).length + k)) C) H.size q → H1[q]? = H[q]? := by
        rw [ad_0]
        exact hk
      obtain ⟨hPn, hDn⟩ := blk_join (E' := es') hP hD ((PW_len hW9).trans (PW_len hPW).symm) hkk (by rw [ad_0]; exact hP1)
      rw [← blk_0] at hPn hDn
      exact hN _ _ _ _ _ (hKv es' hW9) ad' H1 locs1 ls hag hPn hDn hS1 hl
  · exact h.elim
/-- a call of a helper of the law -/
def oPS (rc rs cmc cms np : Nat) (sp : gHS) : gO := fun _ N L S es k n => match gtake np [] S with
  | some (as, S') => gif (Nat.ble (scat S') 8) ((k + cmc ≤ rc ∧ n + cms ≤ rs) ∧ ∃ v C M, es = C ++ M ∧ PW v C ∧ sp as v (fun r v' => ∀ C', PW v' C' → N L (.int r :: S') (C' ++ M) (k + cmc) (n + cms)))
  | _ => False
theorem ok_PS (hM : gM X l0 cc own Ts R0) {y : MethodName} {ws ws' : List Cond} {rm : Room} {bytes : ByteArray} {maxL index np cmc cms : Nat} {ret : Option FieldType} {sp : gHS} (hC : Ct l0 y ws rm cmc cms false (hS sp)) (hG : GoodIn Ts (va_wsS own index y ws)) (hw : ws = Cond.code y bytes maxL ret :: ws') (hrc : rm.cells = cmc) (hrs : rm.slots = cms)
    (hdy : y.cls ≠ "java/lang/invoke/MethodHandle" ∧ y.cls ≠ "java/lang/invoke/VarHandle" ∧ (parseMethodDescriptor y.desc).map (fun d => d.parameters.length) = some np) (hRm : rm.frames + 1 ≤ R0.frames ∧ 8 + (maxL + 11) + rm.locals ≤ R0.locals) (hd : decode cc pc = .ok (.invokestatic index, 3)) :
    okO X pc (pc + 3) (oPS R0.cells R0.slots cmc cms np sp) := by
  obtain ⟨p, l, e, R, s, m, args, below, meth, c, D, cA, A, ag, ad0, Q, nL⟩ := X
  obtain ⟨hx, hb, hown, hts, hml, hlk, hY, hA, hR, hL0⟩ := hM
  subst hR
  subst hL0
  intro J N hJ hN L S es k n h ad H locs ls hag hP hD hS hl
  unfold oPS at h
  split at h
  · rename_i as S' htk
    obtain ⟨pre, h1, h2, h3⟩ := gtake_ok htk
    simp only [List.append_nil] at h1
    subst h1
    subst h2
    replace h := bif_t h
    obtain ⟨hc1, h⟩ := h
    obtain ⟨hroom, v, C, M, rfl, hPW, h⟩ := h
    rw [blk_0] at hP hD
    have hP0 := blk_P hP
    have hD0 := blk_D hD
    have hF := blk_F hD hS hA
    rw [ad_0] at hP0 hD0 hF
    have hMet := hC D cA ad H.size as C (fun val es' => ∃ r v', val = some (.int r) ∧ PW v' es' ∧ ∀ C', PW v' C' → N L (.int r :: S') (C' ++ M) (k + cmc) (n + cms)) ⟨v, _, hPW, h, fun r v' C' hF9 hW9 => ⟨r, v', rfl, hW9, hF9⟩⟩
    have okw : ∀ w ∈ va_wsS own index y ws, w.before args s = true := fun w h => hts w (hG w h).1
    have hcb := callB_of (R := R) (own := own) (index := index) (maxL := maxL) np hts (fun w h => hG w (by unfold va_wsS; exact List.mem_append_right _ h)) hw hrc hrs (okw _ (by simp [va_wsS])) (okw _ (by simp [va_wsS])) hdy hRm
    refine g_call (va_runS (As := as.map (gv ad)) (rest := S'.map (gv ad)) ⟨hx, hb, hml, hown, hts⟩ hMet ⟨hcb, okw _ (by simp [va_wsS])⟩ ⟨gPc_blind, fun U hU hW => ?_⟩ rfl (by simp [h3]) hl.1 (by simp) (lv_room (by rw [scat_eq]; exact Nat.le_of_ble_eq_true hc1)) hd hroom) hS hF (fun val es' ad' H1 locs1 hKv hag' hP1 hD1 hz hk hS1 => ?_)
    · exact ⟨rfl, by rw [hU], by rw [hU]; exact hP0, gY.call hY hS hF hW hU, hD0.weaken (fun _ _ _ _ => trivial)⟩
    · have had : ad' = ad := funext fun i => hag' i trivial
      subst had
      obtain ⟨r, v', rfl, hW9, hKv⟩ := hKv
      have hkk : ∀ q : Nat, q < H.size → ¬ va_A (gw cA (fun k => ad' (([] : List gE).length + k)) C) H.size q → H1[q]? = H[q]? := by
        rw [ad_0]
        exact hk
      obtain ⟨hPn, hDn⟩ := blk_join (E' := es') hP hD ((PW_len hW9).trans (PW_len hPW).symm) hkk (by rw [ad_0]; exact hP1)
      rw [← blk_0] at hPn hDn
      exact hN _ _ _ _ _ (hKv es' hW9) ad' H1 locs1 ls hag hPn hDn hS1 hl
  · exact h.elim
-- the law's own arrays, behind the cache
theorem M_get {C M : List gE} {r : Nat} (hC : C.length = 99) (hr : 99 ≤ r) : gnth (C ++ M) r = gnth M (r - 99) := by
  rw [gnth_eq, gnth_eq, List.getElem?_append_right (by omega), hC]
def oMLd : gO := fun _ N L S es k n => match S with
  | .int i :: .ref r :: S' => gif (Nat.ble 99 r) (∃ v C M sz f j, es = C ++ M ∧ PW v C ∧ gnth M (r - 99) = some (.inl (0, sz, .inl f)) ∧ sz ≤ 100000 ∧ i = nI j ∧ j < sz ∧ N L (.int (f j) :: S') es k n)
  | _ => False
theorem ok_MLd {nx : Nat} (h : okO X pc nx (oIALd 0)) : okO X pc nx oMLd := by
  intro J N hJ hN L S es k n ho
  unfold oMLd at ho
  split at ho
  · rename_i i r S'
    obtain ⟨hr, ho⟩ := bif_t ho
    have hr := Nat.le_of_ble_eq_true hr
    obtain ⟨v, C, M, sz, f, j, rfl, hPW, hg, hsz, rfl, hj, ho⟩ := ho
    refine h J N hJ hN L _ _ k n ?_
    show eInt (C ++ M) r 0 (fun sz9 f9 => ∃ j9 : Nat, nI j = nI j9 ∧ j9 < sz9 ∧ N L (.int (f9 j9) :: S') (C ++ M) k n)
    unfold eInt
    rw [M_get (PW_len hPW) hr, hg]
    simp only
    rw [Nat.ble_eq_true_of_le hsz]
    exact ⟨j, rfl, hj, ho⟩
  · exact ho.elim
def oMSt : gO := fun _ N L S es k n => match S with
  | .int x :: .int i :: .ref r :: S' => gif (Nat.ble 99 r) (∃ v C M sz f j, es = C ++ M ∧ PW v C ∧ gnth M (r - 99) = some (.inl (0, sz, .inl f)) ∧ sz ≤ 100000 ∧ i = nI j ∧ j < sz ∧ N L S' (C ++ M.set (r - 99) (.inl (0, sz, .inl (upd f j x)))) k n)
  | _ => False
theorem ok_MSt {nx : Nat} (h : okO X pc nx oIASt) : okO X pc nx oMSt := by
  intro J N hJ hN L S es k n ho
  unfold oMSt at ho
  split at ho
  · rename_i x i r S'
    obtain ⟨hr, ho⟩ := bif_t ho
    have hr := Nat.le_of_ble_eq_true hr
    obtain ⟨v, C, M, sz, f, j, rfl, hPW, hg, hsz, rfl, hj, ho⟩ := ho
    refine h J N hJ hN L _ _ k n ?_
    show eInt (C ++ M) r 0 (fun sz9 f9 => ∃ j9 : Nat, nI j = nI j9 ∧ j9 < sz9 ∧ N L S' ((C ++ M).set r (.inl (0, sz9, .inl (upd f9 j9 x)))) k n)
    unfold eInt
    rw [M_get (PW_len hPW) hr, hg]
    simp only
    rw [Nat.ble_eq_true_of_le hsz]
    refine ⟨j, rfl, hj, ?_⟩
    rw [List.set_append_right _ _ (by rw [PW_len hPW]; exact hr), PW_len hPW]
    exact ho
  · exact ho.elim
theorem wf_up {a b : Nat} (h : a ≤ b) {E : List gE} (hE : E.all (wfE a) = true) : E.all (wfE b) = true := by
  rw [List.all_eq_true] at hE ⊢
  intro e he
  have := hE e he
  have hv : ∀ v : Value, wfv a v = true → wfv b v = true := fun v hv => by
    cases v with
    | ref k => exact Nat.ble_eq_true_of_le (Nat.le_trans (Nat.le_of_ble_eq_true hv) h)
    | _ => rfl
  rcases e with ⟨t, n, f | f | f | r⟩ | ⟨c, fs⟩
  · rfl
  · rfl
  · rfl
  · simp only [wfE] at this ⊢
    rw [List.all_eq_true] at this ⊢
    intro q hq
    have := this q hq
    cases q with
    | none => rfl
    | some k => exact Nat.ble_eq_true_of_le (Nat.le_trans (Nat.le_of_ble_eq_true this) h)
  · simp only [wfE] at this ⊢
    rw [List.all_eq_true] at this ⊢
    exact fun v hv9 => hv v (this v hv9)
def oMNew (rc rs : Nat) : gO := fun _ N L S es k n => match S with
  | .int x :: S' => ∃ v C M sz len, es = C ++ M ∧ PW v C ∧ x = nI sz ∧ 99 + M.length = len ∧ sz ≤ 100000 ∧ k + 1 ≤ rc ∧ n + sz ≤ rs ∧ gif (M.all (wfE len) && (S'.all (wfv len) && L.all (fun q => wfv len q.2))) (N L (.ref len :: S') (C ++ (M ++ [.inl (0, sz, .inl (fun _ => 0))])) (k + 1) (n + sz))
  | _ => False
theorem ok_MNew {nx rc rs : Nat} (h : okO X pc nx (oNewA rc rs 99 0)) : okO X pc nx (oMNew rc rs) := by
  intro J N hJ hN L S es k n ho
  unfold oMNew at ho
  split at ho
  · rename_i x S'
    obtain ⟨v, C, M, sz, len, rfl, hPW, rfl, rfl, h1, h2, h3, ho⟩ := ho
    obtain ⟨hw, ho⟩ := bif_t ho
    obtain ⟨hw1, hw2⟩ := and_t hw
    refine h J N hJ hN L _ _ k n ?_
    show ∃ len sz9 : Nat, (C ++ M).length = len ∧ nI sz = nI sz9 ∧ gif (wfS len L S' (C ++ M) && (Nat.ble 99 len && (Nat.ble sz9 100000 && (Nat.ble (k + 1) rc && Nat.ble (n + sz9) rs)))) (N L (.ref len :: S') (C ++ M ++ [arr0 0 sz9]) (k + 1) (n + sz9))
    refine ⟨99 + M.length, sz, by rw [List.length_append, PW_len hPW], rfl, ?_⟩
    have e : (wfS (99 + M.length) L S' (C ++ M) && (Nat.ble 99 (99 + M.length) && (Nat.ble sz 100000 && (Nat.ble (k + 1) rc && Nat.ble (n + sz) rs)))) = true := by
      unfold wfS
      rw [List.all_append, wf_up (by omega) (PW_wf hPW), hw1, hw2, Nat.ble_eq_true_of_le h1, Nat.ble_eq_true_of_le h2, Nat.ble_eq_true_of_le h3, Nat.ble_eq_true_of_le (by omega)]
      rfl
    rw [e, List.append_assoc]
    exact ho
  · exact ho.elim
-- the ends
theorem PW_P {D : va_G} {cA : Nat → ClassId} {ad : Nat → Nat} {C M : List gE} {H : Heap} (hP : va_P D vwCl (gw cA ad (C ++ M)) H) : va_P D vwCl (gw cA ad C) H := by
  rw [blk_0] at hP
  have h := blk_P hP
  rw [ad_0] at h
  exact h
theorem PW_D {cA : Nat → ClassId} {ad : Nat → Nat} {C M : List gE} {A : Nat → Prop} (hD : va_D A (gw cA ad (C ++ M))) : va_D A (gw cA ad C) := by
  rw [blk_0] at hD
  have h := blk_D hD
  rw [ad_0] at h
  exact h
def oPRet (K : gK) (mc ms : Nat) : gO := fun _ _ _ S es k n => match S with
  | [.int r] => (k ≤ mc ∧ n ≤ ms) ∧ ∃ v C M, es = C ++ M ∧ PW v C ∧ K (some (.int r)) C
  | _ => False
theorem ok_PRet (hM : gM X l0 cc own Ts R0) {nx : Nat} {K : gK} {mc ms : Nat} (hE : gR X K mc ms (some .int)) (hd : decode cc pc = .ok (.ireturn, 1)) : okO X pc nx (oPRet K mc ms) := by
  obtain ⟨p, l, e, R, s, m, args, below, meth, c, D, cA, A, ag, ad0, Q, nL⟩ := X
  obtain ⟨hx, hb, hown, hts, hml, hlk, hY, hA, hR, hL0⟩ := hM
  intro J N hJ hN L S es k n h ad H locs ls hag hP hD hS hl
  obtain ⟨hret, hE⟩ := hE
  unfold oPRet at h
  split at h
  · obtain ⟨⟨h1, h2⟩, v, C, M, rfl, hPW, h⟩ := h
    refine W.widen h1 h2 (hE _ _ _ ?_)
    exact W.iret hx hb hret (fun t ht hW => ⟨⟨some (.int _), C, ad, rfl, h, hag, by rw [ht]; exact PW_P hP, PW_D hD⟩, hS.F ht⟩) hS.2.2 hd hlk
  · exact h.elim
def oPRetZ (K : gK) (mc ms : Nat) : gO := fun _ _ _ S es k n => match S with
  | [.int r] => (k ≤ mc ∧ n ≤ ms) ∧ (r = 0 ∨ r = 1) ∧ ∃ v C M, es = C ++ M ∧ PW v C ∧ K (some (.int r)) C
  | _ => False
theorem ok_PRetZ (hM : gM X l0 cc own Ts R0) {nx : Nat} {K : gK} {mc ms : Nat} (hE : gR X K mc ms (some .boolean)) (hd : decode cc pc = .ok (.ireturn, 1)) : okO X pc nx (oPRetZ K mc ms) := by
  obtain ⟨p, l, e, R, s, m, args, below, meth, c, D, cA, A, ag, ad0, Q, nL⟩ := X
  obtain ⟨hx, hb, hown, hts, hml, hlk, hY, hA, hR, hL0⟩ := hM
  intro J N hJ hN L S es k n h ad H locs ls hag hP hD hS hl
  obtain ⟨hret, hE⟩ := hE
  unfold oPRetZ at h
  split at h
  · obtain ⟨⟨h1, h2⟩, hz, v, C, M, rfl, hPW, h⟩ := h
    refine W.widen h1 h2 (hE _ _ _ ?_)
    exact W.zret hx hb hret (by rcases hz with rfl | rfl <;> rfl) (fun t ht hW => ⟨⟨some (.int _), C, ad, rfl, h, hag, by rw [ht]; exact PW_P hP, PW_D hD⟩, hS.F ht⟩) hS.2.2 hd hlk
  · exact h.elim
-- single steps
def oShr : gO := fun J N L S es k n => match S with | .int y :: .int x :: S' => N L (.int (x >>> (y &&& 31)) :: S') es k n | _ => False
theorem ok_ishr (hM : gM X l0 cc own Ts R0) (hd : decode cc pc = .ok (.ishr, 1)) : okO X pc (pc + 1) oShr := by
  obtain ⟨p, l, e, R, s, m, args, below, meth, c, D, cA, A, ag, ad0, Q, nL⟩ := X
  obtain ⟨hx, hb, hown, hts, hml, hlk, hY, hA, hR, hL0⟩ := hM
  intro J N hJ hN L S es k n h ad H locs ls hag hP hD hS hl
  unfold oShr at h
  split at h
  · exact lv_ishr hx hb hd (hN _ _ _ _ _ h ad H locs ls hag hP hD hS hl)
  · exact h.elim
theorem ok_ldc (hM : gM X l0 cc own Ts R0) {index : Nat} {v : Int32} (hw : Cond.constant own index v ∈ Ts) (hd : decode cc pc = .ok (.ldc index, 2)) : okO X pc (pc + 2) (oConst v) := by
  obtain ⟨p, l, e, R, s, m, args, below, meth, c, D, cA, A, ag, ad0, Q, nL⟩ := X
  obtain ⟨hx, hb, hown, hts, hml, hlk, hY, hA, hR, hL0⟩ := hM
  intro J N hJ hN L S es k n h ad H locs ls hag hP hD hS hl
  exact W.ldc hx hb hown (hts _ hw) rfl hd (hN _ _ _ _ _ h ad H locs ls hag hP hD hS hl)
/-- a helper that makes cells gives none of them back -/
theorem ct_al {l : Launch} {y : MethodName} {ws : List Cond} {rm : Room} {mc ms : Nat} {sp : gHS} (h : Ct l y ws rm mc ms true (hS sp)) : Ct l y ws rm mc ms false (hS sp) := by
  intro D cA ad sz av es K hsp
  obtain ⟨v, F, hPW, hs, hK⟩ := hsp
  have h1 := h D cA ad sz av es (fun val es' => ∃ r v', val = some (.int r) ∧ F r v' ∧ PW v' es') ⟨v, F, hPW, hs, fun r v' C' a b => ⟨r, v', rfl, a, b⟩⟩
  refine MetFree.mono h1 (fun _ _ h => h) (fun _ _ _ _ _ h => h) (fun a s o t _ hq => ⟨?_, hq.2⟩)
  obtain ⟨⟨val, es', ad', h2, ⟨r, v', rfl, hF, hW⟩, h3, h4, h5⟩, h6⟩ := hq.1
  have e : gw cA ad' es' = gw cA ad es' := wf_w (fun i hi => h3 i (by
    show i < es.length
    rw [PW_len hPW]
    rw [PW_len hW] at hi
    exact hi)) (by rw [PW_len hW]; exact PW_wf hW)
  rw [e] at h4 h5
  exact ⟨⟨some (.int r), es', ad, h2, hK r v' es' hF hW, fun _ _ => rfl, h4, h5⟩, h6⟩
end LE1
